/-! MOVES told by a text -/
abbrev MV : Type := Nat × (Nat → Nat) × (Nat → Nat) × (Nat → Bool)
def mvAdd (mv : MV) (a b : Nat) (s : Bool) : MV := (mv.1 + 1, va_up mv.2.1 mv.1 a, va_up mv.2.2.1 mv.1 b, va_up mv.2.2.2 mv.1 s)
def repF {α : Type} (fr : Nat → α) (o s : Nat) : Nat → Nat → α
  | 0 => fr
  | i + 1 => va_up (repF fr o s i) (o + s + i) (repF fr o s i (o + i))
def repH (hi : Nat → Bool) (o s : Nat) : Nat → Nat → Bool
  | 0 => hi
  | i + 1 => va_up (repH hi o s i) (o + s + i) false
def mvRep (mv : MV) (o s i : Nat) : MV := (o + s + i, repF mv.2.1 o s i, repF mv.2.2.1 o s i, repH mv.2.2.2 o s i)
/-- steps from the token at q: a FAULT and its place, or the place behind and the moves -/
def stepsF (T : Nat → Int32) (n : Nat) : Nat → Nat → MV → Nat → Except (Nat × Nat) (Nat × MV)
  | 0, _, mv, q => .ok (q, mv)
  | f + 1, a, mv, q =>
    if ¬ (tkS T n q = 4 ∧ tkV T n q = 47) then .error (1, q)
    else if tkS T n (nxP T n q) = 3 ∧ tkV T n (nxP T n q) = 2 then
      if mv.1 = 8 then .error (7, nxP T n q)
      else if tkS T n (nxP T n (nxP T n q)) = 4 ∧ tkV T n (nxP T n (nxP T n q)) = 42 then
        if tkS T n (nxP T n (nxP T n (nxP T n q))) = 4 ∧ tkV T n (nxP T n (nxP T n (nxP T n q))) = 47 then stepsF T n f 0 (mvAdd mv a 0 true) (nxP T n (nxP T n (nxP T n q))) else .ok (nxP T n (nxP T n (nxP T n q)), mvAdd mv a 0 true)
      else if tkS T n (nxP T n (nxP T n q)) = 4 ∧ tkV T n (nxP T n (nxP T n q)) = 47 then stepsF T n f 0 (mvAdd mv a 0 false) (nxP T n (nxP T n q)) else .ok (nxP T n (nxP T n q), mvAdd mv a 0 false)
    else if ¬ tkS T n (nxP T n q) = 2 then .error (1, nxP T n q)
    else if tkV T n (nxP T n q) < 1 ∨ 24 < tkV T n (nxP T n q) then .error (2, nxP T n q)
    else if mv.1 = 8 then .error (7, nxP T n q)
    else if tkS T n (nxP T n (nxP T n q)) = 4 ∧ tkV T n (nxP T n (nxP T n q)) = 42 then
      if tkS T n (nxP T n (nxP T n (nxP T n q))) = 4 ∧ tkV T n (nxP T n (nxP T n (nxP T n q))) = 47 then stepsF T n f (tkN T n (nxP T n q)) (mvAdd mv a (tkN T n (nxP T n q)) true) (nxP T n (nxP T n (nxP T n q))) else .ok (nxP T n (nxP T n (nxP T n q)), mvAdd mv a (tkN T n (nxP T n q)) true)
    else if tkS T n (nxP T n (nxP T n q)) = 4 ∧ tkV T n (nxP T n (nxP T n q)) = 47 then stepsF T n f (tkN T n (nxP T n q)) (mvAdd mv a (tkN T n (nxP T n q)) false) (nxP T n (nxP T n q)) else .ok (nxP T n (nxP T n q), mvAdd mv a (tkN T n (nxP T n q)) false)
def tailF (T : Nat → Int32) (n o : Nat) (q : Nat) (mv : MV) : Except (Nat × Nat) (Nat × MV) :=
  if ¬ (tkS T n q = 4 ∧ tkV T n q = 40) then .ok (q, mv)
  else if ¬ tkS T n (nxP T n q) = 2 then .error (1, nxP T n q)
  else if tkV T n (nxP T n q) < 2 ∨ 4 < tkV T n (nxP T n q) then .error (2, nxP T n q)
  else if 8 < o + (mv.1 - o) * tkN T n (nxP T n q) then .error (7, nxP T n q)
  else if ¬ (tkS T n (nxP T n (nxP T n q)) = 4 ∧ tkV T n (nxP T n (nxP T n q)) = 41) then .error (1, nxP T n (nxP T n q))
  else .ok (nxP T n (nxP T n (nxP T n q)), mvRep mv o (mv.1 - o) ((mv.1 - o) * tkN T n (nxP T n q) - (mv.1 - o)))
def moveF (T : Nat → Int32) (n : Nat) (mv : MV) (p : Nat) : Except (Nat × Nat) (Nat × MV) :=
  if tkS T n p = 3 ∧ tkV T n p = 1 then (match stepsF T n (n + 1) 25 mv (nxP T n p) with | .error e => .error e | .ok r => tailF T n mv.1 r.1 r.2)
  else if ¬ tkS T n p = 2 then .error (1, p)
  else if tkV T n p < 1 ∨ 24 < tkV T n p then .error (2, p)
  else (match stepsF T n (n + 1) (tkN T n p) mv (nxP T n p) with | .error e => .error e | .ok r => tailF T n mv.1 r.1 r.2)
def mvRow (A : Nat → Nat → Int32) (mv : MV) : Prop := mv.1 ≤ 8 ∧ ∀ k, k < mv.1 → A 44 k = nI (mv.2.1 k) ∧ mv.2.1 k ≤ 25 ∧ A 45 k = nI (mv.2.2.1 k) ∧ mv.2.2.1 k ≤ 24 ∧ A 46 k = (if mv.2.2.2 k = true then 1 else 0)
def FrM (I I' : Nat → Nat → Int32) : Prop := ∀ k, k < 37 ∨ 42 < k → k ≠ 47 → I' 0 k = I 0 k
theorem FrM.of {I I' : Nat → Nat → Int32} (h : Fr I I') : FrM I I' := fun k h1 _ => h k h1
theorem FrM.tr {I I' I2 : Nat → Nat → Int32} (h : FrM I I') (h2 : FrM I' I2) : FrM I I2 := fun k h1 h3 => (h2 k h1 h3).trans (h k h1 h3)
def sayQ (I A : Nat → Nat → Int32) (J : Nat → Nat → Int64) (n : Nat) (res : Except (Nat × Nat) (Nat × MV)) : Option Value → HS → List Nat → Prop := fun r σ' pl' => r = none ∧ pl' = plM ∧ ∃ I' A', σ' = mS I' A' J ∧ FrM I I' ∧ (∀ q, q ≠ 44 → q ≠ 45 → q ≠ 46 → A' q = A q) ∧
  match res with
  | .error fp => fp.1 ≠ 0 ∧ fp.1 < 10 ∧ fp.2 ≤ n ∧ I' 0 41 = nI fp.1 ∧ I' 0 42 = nI fp.2
  | .ok pr => I' 0 41 = 0 ∧ I' 0 42 = I 0 42 ∧ AtP I' (A 34) n pr.1 ∧ I' 0 47 = nI pr.2.1 ∧ mvRow A' pr.2
theorem mvRow_add {A : Nat → Nat → Int32} {mv : MV} {a b : Nat} {s : Bool} (h : mvRow A mv) (h8 : mv.1 < 8) (ha : a ≤ 25) (hb : b ≤ 24) {A' : Nat → Nat → Int32} (e1 : A' 44 = upd (A 44) mv.1 (nI a)) (e2 : A' 45 = upd (A 45) mv.1 (nI b)) (e3 : A' 46 = upd (A 46) mv.1 (if s = true then 1 else 0)) : mvRow A' (mvAdd mv a b s) := by
  refine ⟨by show mv.1 + 1 ≤ 8; omega, fun k hk => ?_⟩
  have hk : k < mv.1 + 1 := hk
  rw [e1, e2, e3]
  by_cases hkk : k = mv.1
  · subst hkk; rw [upd_in, upd_in, upd_in]; simp [mvAdd, va_up, ha, hb]
  · rw [upd_out hkk, upd_out hkk, upd_out hkk]; simp only [mvAdd, va_up, if_neg hkk]; exact h.2 k (by omega)

theorem r_12_sayMove_0 {X : Ctx} (F : Fx X cX12_sayMove RX12 6 4 0 0) {I A : Nat → Nat → Int32} {J : Nat → Nat → Int64}
    (e_1 : (¬ (I 0 38) = 3) → WA X (mS (numI I (1 : Int32) (24 : Int32)) A J) plM 0 0 34 [(0, .ref 0), (1, .int 0)] [])
    (e_2 : ((I 0 38) = 3) → (¬ (I 0 39) = 1) → WA X (mS (numI I (1 : Int32) (24 : Int32)) A J) plM 0 0 34 [(0, .ref 0), (1, .int 0)] [])
    (e_3 : ((I 0 38) = 3) → ((I 0 39) = 1) → WA X (mS I A J) plM 0 0 34 [(0, .ref 0), (1, .int 25)] []) :
    WA X (mS I A J) plM 0 0 0 [(0, .ref 0)] [] := by
  refine a_aload_n F 0 dX12_sayMove_0 rfl rfl ?_
  refine a_geti F fl_12_302 rfl (by decide) rfl dX12_sayMove_1 ?_
  refine a_iconst (v := 3) F dX12_sayMove_4 (by decide) ?_
  refine a_icmp_ne (tgt := 21) F dX12_sayMove_5 (by decide) (fun (c_1 : ¬ (I 0 38) = 3) => ?_) (fun (c_1 : (I 0 38) = 3) => ?_)
  · refine a_iconst (v := 0) F dX12_sayMove_21 (by decide) ?_
    refine a_istore_n F dX12_sayMove_22 rfl (by decide) rfl ?_
    refine a_iload_n F 0 dX12_sayMove_23 rfl rfl ?_
    refine a_if_ne (tgt := 34) F dX12_sayMove_24 (by decide) (fun (c_2 : ¬ (0 : Int32) = 0) => ?_) (fun (c_2 : (0 : Int32) = 0) => ?_)
    · exact absurd c_2 (by decide)
    · refine a_aload_n F 1 dX12_sayMove_27 rfl rfl ?_
      refine a_iconst (v := 1) F dX12_sayMove_28 (by decide) ?_
      refine a_bipush (v := 24) F dX12_sayMove_29 (by decide) ?_
      refine a_callV (b := 0) (As := [.int 1, .int 24]) (st := []) (ci := 12) F (c_isNumber (xl X) I A J 1 24) ml_12_331 im_yX12_isNumber se_yX12_isNumber (by decide) (by decide) rfl (by decide) rfl rfl dX12_sayMove_31 (by decide) (Nat.le_refl 0) (Nat.le_refl 0) (hl_i (hl_r (by decide) hl_nil)) hs_nil ?_
      rintro _ _ _ ⟨rfl, rfl, rfl⟩ _
      show WA X (mS (numI I (1 : Int32) (24 : Int32)) A J) plM 0 0 34 [(1, .int 0), (0, .ref 0)] []
      refine a_sub [1, 0] rfl ?_
      exact e_1 c_1
  · refine a_aload_n F 0 dX12_sayMove_8 rfl rfl ?_
    refine a_geti F fl_12_296 rfl (by decide) rfl dX12_sayMove_9 ?_
    refine a_iconst (v := 1) F dX12_sayMove_12 (by decide) ?_
    refine a_icmp_ne (tgt := 21) F dX12_sayMove_13 (by decide) (fun (c_3 : ¬ (I 0 39) = 1) => ?_) (fun (c_3 : (I 0 39) = 1) => ?_)
    · refine a_iconst (v := 0) F dX12_sayMove_21 (by decide) ?_
      refine a_istore_n F dX12_sayMove_22 rfl (by decide) rfl ?_
      refine a_iload_n F 0 dX12_sayMove_23 rfl rfl ?_
      refine a_if_ne (tgt := 34) F dX12_sayMove_24 (by decide) (fun (c_4 : ¬ (0 : Int32) = 0) => ?_) (fun (c_4 : (0 : Int32) = 0) => ?_)
      · exact absurd c_4 (by decide)
      · refine a_aload_n F 1 dX12_sayMove_27 rfl rfl ?_
        refine a_iconst (v := 1) F dX12_sayMove_28 (by decide) ?_
        refine a_bipush (v := 24) F dX12_sayMove_29 (by decide) ?_
        refine a_callV (b := 0) (As := [.int 1, .int 24]) (st := []) (ci := 12) F (c_isNumber (xl X) I A J 1 24) ml_12_331 im_yX12_isNumber se_yX12_isNumber (by decide) (by decide) rfl (by decide) rfl rfl dX12_sayMove_31 (by decide) (Nat.le_refl 0) (Nat.le_refl 0) (hl_i (hl_r (by decide) hl_nil)) hs_nil ?_
        rintro _ _ _ ⟨rfl, rfl, rfl⟩ _
        show WA X (mS (numI I (1 : Int32) (24 : Int32)) A J) plM 0 0 34 [(1, .int 0), (0, .ref 0)] []
        refine a_sub [1, 0] rfl ?_
        exact e_2 c_1 c_3
    · refine a_bipush (v := 25) F dX12_sayMove_16 (by decide) ?_
      refine a_goto (tgt := 22) F dX12_sayMove_18 (by decide) ?_
      refine a_istore_n F dX12_sayMove_22 rfl (by decide) rfl ?_
      refine a_iload_n F 0 dX12_sayMove_23 rfl rfl ?_
      refine a_if_ne (tgt := 34) F dX12_sayMove_24 (by decide) (fun (c_5 : ¬ (25 : Int32) = 0) => ?_) (fun (c_5 : (25 : Int32) = 0) => ?_)
      · refine a_sub [1, 0] rfl ?_
        exact e_3 c_1 c_3
      · exact absurd c_5 (by decide)

theorem r_12_sayMove_34 {X : Ctx} (F : Fx X cX12_sayMove RX12 6 4 0 0) {Φ : Option Value → HS → List Nat → Prop} (E : Ex X none 0 0 Φ) {I A : Nat → Nat → Int32} {J : Nat → Nat → Int64} {x1 : Int32}
    (o_1 : ((I 0 41) = 0) → (¬ x1 = 25) → ∃ n i, n ≤ 400 ∧ i ≤ n ∧ (I 0 36) = nI n ∧ (I 0 37) = nI i)
    (e_2 : ((I 0 41) = 0) → (¬ x1 = 25) → WA X (mS (gonI I A) A J) plM 0 0 69 [(0, .ref 0), (1, .int (I 0 39)), (2, .int ((gonI I A) 0 47)), (3, .int 1)] [])
    (o_3 : ((I 0 41) = 0) → (x1 = 25) → ∃ n i, n ≤ 400 ∧ i ≤ n ∧ (I 0 36) = nI n ∧ (I 0 37) = nI i)
    (e_4 : ((I 0 41) = 0) → (x1 = 25) → WA X (mS (gonI I A) A J) plM 0 0 69 [(0, .ref 0), (1, .int 25), (2, .int ((gonI I A) 0 47)), (3, .int 1)] [])
    (e_5 : (¬ ((I 0 41) = 0)) → Φ none (mS I A J) plM) :
    WA X (mS I A J) plM 0 0 34 [(0, .ref 0), (1, .int x1)] [] := by
  refine a_aload_n F 0 dX12_sayMove_34 rfl rfl ?_
  refine a_callV (b := 0) (As := []) (st := []) (ci := 12) F (c_fine (xl X) I A J ) ml_12_310 im_yX12_fine se_yX12_fine (by decide) (by decide) rfl (by decide) rfl rfl dX12_sayMove_35 (by decide) (Nat.le_refl 0) (Nat.le_refl 0) (hl_r (by decide) (hl_i hl_nil)) hs_nil ?_
  rintro _ _ _ ⟨rfl, rfl, rfl⟩ _
  show WA X (mS I A J) plM 0 0 38 [(0, .ref 0), (1, .int x1)] [.int (if (I 0 41) = 0 then 1 else 0)]
  refine a_ite (fun (c_6 : (I 0 41) = 0) => ?_) (fun (c_6 : ¬ ((I 0 41) = 0)) => ?_)
  · refine a_if_ne (tgt := 42) F dX12_sayMove_38 (by decide) (fun (c_7 : ¬ (1 : Int32) = 0) => ?_) (fun (c_7 : (1 : Int32) = 0) => ?_)
    · refine a_iload_n F 1 dX12_sayMove_42 rfl rfl ?_
      refine a_bipush (v := 25) F dX12_sayMove_43 (by decide) ?_
      refine a_icmp_ne (tgt := 53) F dX12_sayMove_45 (by decide) (fun (c_8 : ¬ x1 = 25) => ?_) (fun (c_8 : x1 = 25) => ?_)
      · refine a_aload_n F 0 dX12_sayMove_53 rfl rfl ?_
        refine a_geti F fl_12_296 rfl (by decide) rfl dX12_sayMove_54 ?_
        refine a_istore_n F dX12_sayMove_57 rfl (by decide) rfl ?_
        refine a_aload_n F 1 dX12_sayMove_58 rfl rfl ?_
        refine a_callV (b := 0) (As := []) (st := []) (ci := 12) F (c_goI (xl X) I A J  (o_1 c_6 c_8)) ml_12_316 im_yX12_go se_yX12_go (by decide) (by decide) rfl (by decide) rfl rfl dX12_sayMove_59 (by decide) (Nat.le_refl 0) (Nat.le_refl 0) (hl_i (hl_r (by decide) hl_nil)) hs_nil ?_
        rintro _ _ _ ⟨rfl, rfl, rfl⟩ _
        show WA X (mS (gonI I A) A J) plM 0 0 62 [(1, .int (I 0 39)), (0, .ref 0)] []
        refine a_aload_n F 1 dX12_sayMove_62 rfl rfl ?_
        refine a_geti F fl_12_334 rfl (by decide) rfl dX12_sayMove_63 ?_
        refine a_istore_n F dX12_sayMove_66 rfl (by decide) rfl ?_
        refine a_iconst (v := 1) F dX12_sayMove_67 (by decide) ?_
        refine a_istore_n F dX12_sayMove_68 rfl (by decide) rfl ?_
        refine a_sub [3, 2, 1, 0] rfl ?_
        exact e_2 c_6 c_8
      · refine a_bipush (v := 25) F dX12_sayMove_48 (by decide) ?_
        refine a_goto (tgt := 57) F dX12_sayMove_50 (by decide) ?_
        refine a_istore_n F dX12_sayMove_57 rfl (by decide) rfl ?_
        refine a_aload_n F 1 dX12_sayMove_58 rfl rfl ?_
        refine a_callV (b := 0) (As := []) (st := []) (ci := 12) F (c_goI (xl X) I A J  (o_3 c_6 c_8)) ml_12_316 im_yX12_go se_yX12_go (by decide) (by decide) rfl (by decide) rfl rfl dX12_sayMove_59 (by decide) (Nat.le_refl 0) (Nat.le_refl 0) (hl_i (hl_r (by decide) hl_nil)) hs_nil ?_
        rintro _ _ _ ⟨rfl, rfl, rfl⟩ _
        show WA X (mS (gonI I A) A J) plM 0 0 62 [(1, .int 25), (0, .ref 0)] []
        refine a_aload_n F 1 dX12_sayMove_62 rfl rfl ?_
        refine a_geti F fl_12_334 rfl (by decide) rfl dX12_sayMove_63 ?_
        refine a_istore_n F dX12_sayMove_66 rfl (by decide) rfl ?_
        refine a_iconst (v := 1) F dX12_sayMove_67 (by decide) ?_
        refine a_istore_n F dX12_sayMove_68 rfl (by decide) rfl ?_
        refine a_sub [3, 2, 1, 0] rfl ?_
        exact e_4 c_6 c_8
    · exact absurd c_7 (by decide)
  · refine a_if_ne (tgt := 42) F dX12_sayMove_38 (by decide) (fun (c_9 : ¬ (0 : Int32) = 0) => ?_) (fun (c_9 : (0 : Int32) = 0) => ?_)
    · exact absurd c_9 (by decide)
    · exact a_vret F E dX12_sayMove_41 (Nat.le_refl 0) (Nat.le_refl 0) (e_5 c_6)

theorem r_12_sayMove_69 {X : Ctx} (F : Fx X cX12_sayMove RX12 6 4 0 0) {I A : Nat → Nat → Int32} {J : Nat → Nat → Int64} {x1 x2 x3 : Int32}
    (e_1 : (x3 = 0) → WA X (mS I A J) plM 0 0 249 [(0, .ref 0), (1, .int x1), (2, .int x2), (3, .int x3)] [])
    (o_2 : (¬ (x3 = 0)) → ((I 0 41) = 0) → (I 0 41) = 0 → (I 0 38) = 4 → okT I)
    (e_3 : (¬ (x3 = 0)) → ((I 0 41) = 0) → WA X (mS (needI I A (47 : Int32)) A J) plM 0 0 86 [(0, .ref 0), (1, .int x1), (2, .int x2), (3, .int x3)] [])
    (e_4 : (¬ (x3 = 0)) → (¬ ((I 0 41) = 0)) → WA X (mS I A J) plM 0 0 249 [(0, .ref 0), (1, .int x1), (2, .int x2), (3, .int x3)] []) :
    WA X (mS I A J) plM 0 0 69 [(0, .ref 0), (1, .int x1), (2, .int x2), (3, .int x3)] [] := by
  refine a_iload_n F 3 dX12_sayMove_69 rfl rfl ?_
  refine a_if_eq (tgt := 249) F dX12_sayMove_70 (by decide) (fun (c_10 : x3 = 0) => ?_) (fun (c_10 : ¬ (x3 = 0)) => ?_)
  · exact e_1 c_10
  · refine a_aload_n F 0 dX12_sayMove_73 rfl rfl ?_
    refine a_callV (b := 0) (As := []) (st := []) (ci := 12) F (c_fine (xl X) I A J ) ml_12_310 im_yX12_fine se_yX12_fine (by decide) (by decide) rfl (by decide) rfl rfl dX12_sayMove_74 (by decide) (Nat.le_refl 0) (Nat.le_refl 0) (hl_r (by decide) (hl_i (hl_i (hl_i hl_nil)))) hs_nil ?_
    rintro _ _ _ ⟨rfl, rfl, rfl⟩ _
    show WA X (mS I A J) plM 0 0 77 [(0, .ref 0), (1, .int x1), (2, .int x2), (3, .int x3)] [.int (if (I 0 41) = 0 then 1 else 0)]
    refine a_ite (fun (c_11 : (I 0 41) = 0) => ?_) (fun (c_11 : ¬ ((I 0 41) = 0)) => ?_)
    · refine a_if_eq (tgt := 249) F dX12_sayMove_77 (by decide) (fun (c_12 : (1 : Int32) = 0) => ?_) (fun (c_12 : ¬ ((1 : Int32) = 0)) => ?_)
      · exact absurd c_12 (by decide)
      · refine a_aload_n F 0 dX12_sayMove_80 rfl rfl ?_
        refine a_bipush (v := 47) F dX12_sayMove_81 (by decide) ?_
        refine a_callV (b := 0) (As := [.int 47]) (st := []) (ci := 12) F (c_need (xl X) I A J 47 (o_2 c_10 c_11)) ml_12_328 im_yX12_need se_yX12_need (by decide) (by decide) rfl (by decide) rfl rfl dX12_sayMove_83 (by decide) (Nat.le_refl 0) (Nat.le_refl 0) (hl_r (by decide) (hl_i (hl_i (hl_i hl_nil)))) hs_nil ?_
        rintro _ _ _ ⟨rfl, rfl, rfl⟩ _
        show WA X (mS (needI I A (47 : Int32)) A J) plM 0 0 86 [(0, .ref 0), (1, .int x1), (2, .int x2), (3, .int x3)] []
        exact e_3 c_10 c_11
    · refine a_if_eq (tgt := 249) F dX12_sayMove_77 (by decide) (fun (c_13 : (0 : Int32) = 0) => ?_) (fun (c_13 : ¬ ((0 : Int32) = 0)) => ?_)
      · exact e_4 c_10 c_11
      · exact absurd c_13 (by decide)

theorem r_12_sayMove_86 {X : Ctx} (F : Fx X cX12_sayMove RX12 6 4 0 0) {I A : Nat → Nat → Int32} {J : Nat → Nat → Int64} {x1 x2 x3 : Int32}
    (e_1 : ((I 0 41) = 0) → (¬ (I 0 38) = 3) → WA X (mS I A J) plM 0 0 116 [(0, .ref 0), (1, .int x1), (2, .int x2), (3, .int x3), (4, .int 0)] [])
    (e_2 : ((I 0 41) = 0) → ((I 0 38) = 3) → (¬ (I 0 39) = 2) → WA X (mS I A J) plM 0 0 116 [(0, .ref 0), (1, .int x1), (2, .int x2), (3, .int x3), (4, .int 0)] [])
    (e_3 : ((I 0 41) = 0) → ((I 0 38) = 3) → ((I 0 39) = 2) → WA X (mS I A J) plM 0 0 116 [(0, .ref 0), (1, .int x1), (2, .int x2), (3, .int x3), (4, .int 1)] [])
    (e_4 : (¬ ((I 0 41) = 0)) → WA X (mS I A J) plM 0 0 116 [(0, .ref 0), (1, .int x1), (2, .int x2), (3, .int x3), (4, .int 0)] []) :
    WA X (mS I A J) plM 0 0 86 [(0, .ref 0), (1, .int x1), (2, .int x2), (3, .int x3)] [] := by
  refine a_aload_n F 0 dX12_sayMove_86 rfl rfl ?_
  refine a_callV (b := 0) (As := []) (st := []) (ci := 12) F (c_fine (xl X) I A J ) ml_12_310 im_yX12_fine se_yX12_fine (by decide) (by decide) rfl (by decide) rfl rfl dX12_sayMove_87 (by decide) (Nat.le_refl 0) (Nat.le_refl 0) (hl_r (by decide) (hl_i (hl_i (hl_i hl_nil)))) hs_nil ?_
  rintro _ _ _ ⟨rfl, rfl, rfl⟩ _
  show WA X (mS I A J) plM 0 0 90 [(0, .ref 0), (1, .int x1), (2, .int x2), (3, .int x3)] [.int (if (I 0 41) = 0 then 1 else 0)]
  refine a_ite (fun (c_14 : (I 0 41) = 0) => ?_) (fun (c_14 : ¬ ((I 0 41) = 0)) => ?_)
  · refine a_if_eq (tgt := 113) F dX12_sayMove_90 (by decide) (fun (c_15 : (1 : Int32) = 0) => ?_) (fun (c_15 : ¬ ((1 : Int32) = 0)) => ?_)
    · exact absurd c_15 (by decide)
    · refine a_aload_n F 0 dX12_sayMove_93 rfl rfl ?_
      refine a_geti F fl_12_302 rfl (by decide) rfl dX12_sayMove_94 ?_
      refine a_iconst (v := 3) F dX12_sayMove_97 (by decide) ?_
      refine a_icmp_ne (tgt := 113) F dX12_sayMove_98 (by decide) (fun (c_16 : ¬ (I 0 38) = 3) => ?_) (fun (c_16 : (I 0 38) = 3) => ?_)
      · refine a_iconst (v := 0) F dX12_sayMove_113 (by decide) ?_
        refine a_istore F dX12_sayMove_114 (by decide) rfl ?_
        refine a_sub [1, 2, 3, 4, 0] rfl ?_
        exact e_1 c_14 c_16
      · refine a_aload_n F 0 dX12_sayMove_101 rfl rfl ?_
        refine a_geti F fl_12_296 rfl (by decide) rfl dX12_sayMove_102 ?_
        refine a_iconst (v := 2) F dX12_sayMove_105 (by decide) ?_
        refine a_icmp_ne (tgt := 113) F dX12_sayMove_106 (by decide) (fun (c_17 : ¬ (I 0 39) = 2) => ?_) (fun (c_17 : (I 0 39) = 2) => ?_)
        · refine a_iconst (v := 0) F dX12_sayMove_113 (by decide) ?_
          refine a_istore F dX12_sayMove_114 (by decide) rfl ?_
          refine a_sub [1, 2, 3, 4, 0] rfl ?_
          exact e_2 c_14 c_16 c_17
        · refine a_iconst (v := 1) F dX12_sayMove_109 (by decide) ?_
          refine a_goto (tgt := 114) F dX12_sayMove_110 (by decide) ?_
          refine a_istore F dX12_sayMove_114 (by decide) rfl ?_
          refine a_sub [1, 2, 3, 4, 0] rfl ?_
          exact e_3 c_14 c_16 c_17
  · refine a_if_eq (tgt := 113) F dX12_sayMove_90 (by decide) (fun (c_18 : (0 : Int32) = 0) => ?_) (fun (c_18 : ¬ ((0 : Int32) = 0)) => ?_)
    · refine a_iconst (v := 0) F dX12_sayMove_113 (by decide) ?_
      refine a_istore F dX12_sayMove_114 (by decide) rfl ?_
      refine a_sub [1, 2, 3, 4, 0] rfl ?_
      exact e_4 c_14
    · exact absurd c_18 (by decide)

theorem r_12_sayMove_116 {X : Ctx} (F : Fx X cX12_sayMove RX12 6 4 0 0) {I A : Nat → Nat → Int32} {J : Nat → Nat → Int64} {x1 x2 x3 x4 : Int32}
    (e_1 : (¬ x4 = 0) → WA X (mS I A J) plM 0 0 128 [(0, .ref 0), (1, .int x1), (2, .int x2), (3, .int x3), (4, .int x4)] [])
    (e_2 : (x4 = 0) → WA X (mS (numI I (1 : Int32) (24 : Int32)) A J) plM 0 0 128 [(0, .ref 0), (1, .int x1), (2, .int x2), (3, .int x3), (4, .int x4)] []) :
    WA X (mS I A J) plM 0 0 116 [(0, .ref 0), (1, .int x1), (2, .int x2), (3, .int x3), (4, .int x4)] [] := by
  refine a_iload F 4 dX12_sayMove_116 rfl ?_
  refine a_if_ne (tgt := 128) F dX12_sayMove_118 (by decide) (fun (c_19 : ¬ x4 = 0) => ?_) (fun (c_19 : x4 = 0) => ?_)
  · exact e_1 c_19
  · refine a_aload_n F 0 dX12_sayMove_121 rfl rfl ?_
    refine a_iconst (v := 1) F dX12_sayMove_122 (by decide) ?_
    refine a_bipush (v := 24) F dX12_sayMove_123 (by decide) ?_
    refine a_callV (b := 0) (As := [.int 1, .int 24]) (st := []) (ci := 12) F (c_isNumber (xl X) I A J 1 24) ml_12_331 im_yX12_isNumber se_yX12_isNumber (by decide) (by decide) rfl (by decide) rfl rfl dX12_sayMove_125 (by decide) (Nat.le_refl 0) (Nat.le_refl 0) (hl_r (by decide) (hl_i (hl_i (hl_i (hl_i hl_nil))))) hs_nil ?_
    rintro _ _ _ ⟨rfl, rfl, rfl⟩ _
    show WA X (mS (numI I (1 : Int32) (24 : Int32)) A J) plM 0 0 128 [(0, .ref 0), (1, .int x1), (2, .int x2), (3, .int x3), (4, .int x4)] []
    exact e_2 c_19

theorem r_12_sayMove_128 {X : Ctx} (F : Fx X cX12_sayMove RX12 6 4 0 0) {I A : Nat → Nat → Int32} {J : Nat → Nat → Int64} {x1 x2 x3 x4 : Int32}
    (e_1 : (¬ (I 0 47) = 8) → WA X (mS I A J) plM 0 0 147 [(0, .ref 0), (1, .int x1), (2, .int x2), (3, .int x3), (4, .int x4)] [])
    (e_2 : ((I 0 47) = 8) → WA X (mS (wrongI I (7 : Int32) (I 0 40)) A J) plM 0 0 147 [(0, .ref 0), (1, .int x1), (2, .int x2), (3, .int x3), (4, .int x4)] []) :
    WA X (mS I A J) plM 0 0 128 [(0, .ref 0), (1, .int x1), (2, .int x2), (3, .int x3), (4, .int x4)] [] := by
  refine a_aload_n F 0 dX12_sayMove_128 rfl rfl ?_
  refine a_geti F fl_12_334 rfl (by decide) rfl dX12_sayMove_129 ?_
  refine a_bipush (v := 8) F dX12_sayMove_132 (by decide) ?_
  refine a_icmp_ne (tgt := 147) F dX12_sayMove_134 (by decide) (fun (c_20 : ¬ (I 0 47) = 8) => ?_) (fun (c_20 : (I 0 47) = 8) => ?_)
  · exact e_1 c_20
  · refine a_aload_n F 0 dX12_sayMove_137 rfl rfl ?_
    refine a_bipush (v := 7) F dX12_sayMove_138 (by decide) ?_
    refine a_aload_n F 0 dX12_sayMove_140 rfl rfl ?_
    refine a_geti F fl_12_293 rfl (by decide) rfl dX12_sayMove_141 ?_
    refine a_callV (b := 0) (As := [.int 7, .int (I 0 40)]) (st := []) (ci := 12) F (c_wrong (xl X) I A J 7 (I 0 40)) ml_12_319 im_yX12_wrong se_yX12_wrong (by decide) (by decide) rfl (by decide) rfl rfl dX12_sayMove_144 (by decide) (Nat.le_refl 0) (Nat.le_refl 0) (hl_r (by decide) (hl_i (hl_i (hl_i (hl_i hl_nil))))) hs_nil ?_
    rintro _ _ _ ⟨rfl, rfl, rfl⟩ _
    show WA X (mS (wrongI I (7 : Int32) (I 0 40)) A J) plM 0 0 147 [(0, .ref 0), (1, .int x1), (2, .int x2), (3, .int x3), (4, .int x4)] []
    exact e_2 c_20

theorem r_12_sayMove_147 {X : Ctx} (F : Fx X cX12_sayMove RX12 6 4 0 0) {Φ : Option Value → HS → List Nat → Prop} (E : Ex X none 0 0 Φ) {I A : Nat → Nat → Int32} {J : Nat → Nat → Int64} {x1 x2 x3 x4 : Int32}
    (e_1 : ((I 0 41) = 0) → WA X (mS I A J) plM 0 0 155 [(0, .ref 0), (1, .int x1), (2, .int x2), (3, .int x3), (4, .int x4)] [])
    (e_2 : (¬ ((I 0 41) = 0)) → Φ none (mS I A J) plM) :
    WA X (mS I A J) plM 0 0 147 [(0, .ref 0), (1, .int x1), (2, .int x2), (3, .int x3), (4, .int x4)] [] := by
  refine a_aload_n F 0 dX12_sayMove_147 rfl rfl ?_
  refine a_callV (b := 0) (As := []) (st := []) (ci := 12) F (c_fine (xl X) I A J ) ml_12_310 im_yX12_fine se_yX12_fine (by decide) (by decide) rfl (by decide) rfl rfl dX12_sayMove_148 (by decide) (Nat.le_refl 0) (Nat.le_refl 0) (hl_r (by decide) (hl_i (hl_i (hl_i (hl_i hl_nil))))) hs_nil ?_
  rintro _ _ _ ⟨rfl, rfl, rfl⟩ _
  show WA X (mS I A J) plM 0 0 151 [(0, .ref 0), (1, .int x1), (2, .int x2), (3, .int x3), (4, .int x4)] [.int (if (I 0 41) = 0 then 1 else 0)]
  refine a_ite (fun (c_21 : (I 0 41) = 0) => ?_) (fun (c_21 : ¬ ((I 0 41) = 0)) => ?_)
  · refine a_if_ne (tgt := 155) F dX12_sayMove_151 (by decide) (fun (c_22 : ¬ (1 : Int32) = 0) => ?_) (fun (c_22 : (1 : Int32) = 0) => ?_)
    · exact e_1 c_21
    · exact absurd c_22 (by decide)
  · refine a_if_ne (tgt := 155) F dX12_sayMove_151 (by decide) (fun (c_23 : ¬ (0 : Int32) = 0) => ?_) (fun (c_23 : (0 : Int32) = 0) => ?_)
    · exact absurd c_23 (by decide)
    · exact a_vret F E dX12_sayMove_154 (Nat.le_refl 0) (Nat.le_refl 0) (e_2 c_21)

theorem r_12_sayMove_155 {X : Ctx} (F : Fx X cX12_sayMove RX12 6 4 0 0) {I A : Nat → Nat → Int32} {J : Nat → Nat → Int64} {x1 x2 x3 x4 : Int32}
    (o_1 : vp_in (I 0 47) 16)
    (o_2 : vp_in (I 0 47) 16)
    (o_3 : vp_in (I 0 47) 16)
    (o_4 : ∃ n i, n ≤ 400 ∧ i ≤ n ∧ (I 0 36) = nI n ∧ (I 0 37) = nI i)
    (e_5 : WA X (mS (gonI I (up1 (up1 A 44 (upd (A 44) (I 0 47).toNatClampNeg x1)) 45 (upd (A 45) (I 0 47).toNatClampNeg (if x4 = 0 then (I 0 39) else 0)))) (up1 (up1 A 44 (upd (A 44) (I 0 47).toNatClampNeg x1)) 45 (upd (A 45) (I 0 47).toNatClampNeg (if x4 = 0 then (I 0 39) else 0))) J) plM 0 0 201 [(0, .ref 0), (1, .int ((upd (A 45) (I 0 47).toNatClampNeg (if x4 = 0 then (I 0 39) else 0)) (I 0 47).toNatClampNeg)), (2, .int x2), (3, .int x3), (4, .int x4)] []) :
    WA X (mS I A J) plM 0 0 155 [(0, .ref 0), (1, .int x1), (2, .int x2), (3, .int x3), (4, .int x4)] [] := by
  refine a_aload_n F 0 dX12_sayMove_155 rfl rfl ?_
  refine a_getr (b := 44) F fl_12_66 rfl (by decide) rfl rfl dX12_sayMove_156 ?_
  refine a_aload_n F 0 dX12_sayMove_159 rfl rfl ?_
  refine a_geti F fl_12_334 rfl (by decide) rfl dX12_sayMove_160 ?_
  refine a_iload_n F 1 dX12_sayMove_163 rfl rfl ?_
  refine a_iast F (by decide) rfl (o_1) dX12_sayMove_164 ?_
  refine a_aload_n F 0 dX12_sayMove_165 rfl rfl ?_
  refine a_getr (b := 45) F fl_12_69 rfl (by decide) rfl rfl dX12_sayMove_166 ?_
  refine a_aload_n F 0 dX12_sayMove_169 rfl rfl ?_
  refine a_geti F fl_12_334 rfl (by decide) rfl dX12_sayMove_170 ?_
  refine a_iload F 4 dX12_sayMove_173 rfl ?_
  suffices k : ∀ z9 : Int32, z9 = (if x4 = 0 then (I 0 39) else 0) → WA X (mS I (up1 A 44 (upd (A 44) (I 0 47).toNatClampNeg x1)) J) plM 0 0 186 [(0, .ref 0), (1, .int x1), (2, .int x2), (3, .int x3), (4, .int x4)] [.int z9, .int (I 0 47), .ref 45] by
    refine a_if_eq (tgt := 182) F dX12_sayMove_175 (by decide) (fun (c_24 : x4 = 0) => ?_) (fun (c_24 : ¬ (x4 = 0)) => ?_)
    · refine a_aload_n F 0 dX12_sayMove_182 rfl rfl ?_
      refine a_geti F fl_12_296 rfl (by decide) rfl dX12_sayMove_183 ?_
      exact k _ (by rw [if_pos c_24] <;> rfl)
    · refine a_iconst (v := 0) F dX12_sayMove_178 (by decide) ?_
      refine a_goto (tgt := 186) F dX12_sayMove_179 (by decide) ?_
      exact k _ (by rw [if_neg c_24] <;> rfl)
  rintro _ rfl
  refine a_iast F (by decide) rfl (o_2) dX12_sayMove_186 ?_
  refine a_aload_n F 0 dX12_sayMove_187 rfl rfl ?_
  refine a_getr (b := 45) F fl_12_69 rfl (by decide) rfl rfl dX12_sayMove_188 ?_
  refine a_aload_n F 0 dX12_sayMove_191 rfl rfl ?_
  refine a_geti F fl_12_334 rfl (by decide) rfl dX12_sayMove_192 ?_
  refine a_iald F (by decide) rfl (o_3) dX12_sayMove_195 ?_
  refine a_istore_n F dX12_sayMove_196 rfl (by decide) rfl ?_
  refine a_aload_n F 1 dX12_sayMove_197 rfl rfl ?_
  refine a_callV (b := 0) (As := []) (st := []) (ci := 12) F (c_goI (xl X) I (up1 (up1 A 44 (upd (A 44) (I 0 47).toNatClampNeg x1)) 45 (upd (A 45) (I 0 47).toNatClampNeg (if x4 = 0 then (I 0 39) else 0))) J  (o_4)) ml_12_316 im_yX12_go se_yX12_go (by decide) (by decide) rfl (by decide) rfl rfl dX12_sayMove_198 (by decide) (Nat.le_refl 0) (Nat.le_refl 0) (hl_i (hl_r (by decide) (hl_i (hl_i (hl_i hl_nil))))) hs_nil ?_
  rintro _ _ _ ⟨rfl, rfl, rfl⟩ _
  show WA X (mS (gonI I (up1 (up1 A 44 (upd (A 44) (I 0 47).toNatClampNeg x1)) 45 (upd (A 45) (I 0 47).toNatClampNeg (if x4 = 0 then (I 0 39) else 0)))) (up1 (up1 A 44 (upd (A 44) (I 0 47).toNatClampNeg x1)) 45 (upd (A 45) (I 0 47).toNatClampNeg (if x4 = 0 then (I 0 39) else 0))) J) plM 0 0 201 [(1, .int ((upd (A 45) (I 0 47).toNatClampNeg (if x4 = 0 then (I 0 39) else 0)) (I 0 47).toNatClampNeg)), (0, .ref 0), (2, .int x2), (3, .int x3), (4, .int x4)] []
  refine a_sub [1, 0, 2, 3, 4] rfl ?_
  exact e_5

theorem r_12_sayMove_201 {X : Ctx} (F : Fx X cX12_sayMove RX12 6 4 0 0) {I A : Nat → Nat → Int32} {J : Nat → Nat → Int64} {x1 x2 x3 x4 : Int32}
    (o_1 : ((I 0 41) = 0 ∧ (I 0 38) = 4 ∧ (I 0 39) = (42 : Int32)) → vp_in (I 0 47) 16)
    (o_2 : ((I 0 41) = 0 ∧ (I 0 38) = 4 ∧ (I 0 39) = (42 : Int32)) → ∃ n i, n ≤ 400 ∧ i ≤ n ∧ (I 0 36) = nI n ∧ (I 0 37) = nI i)
    (e_3 : ((I 0 41) = 0 ∧ (I 0 38) = 4 ∧ (I 0 39) = (42 : Int32)) → WA X (mS (gonI I (up1 A 46 (upd (A 46) (I 0 47).toNatClampNeg (vp_nar .boolean 1)))) (up1 A 46 (upd (A 46) (I 0 47).toNatClampNeg (vp_nar .boolean 1))) J) plM 0 0 229 [(0, .ref 0), (1, .int x1), (2, .int x2), (3, .int x3), (4, .int x4)] [])
    (o_4 : (¬ ((I 0 41) = 0 ∧ (I 0 38) = 4 ∧ (I 0 39) = (42 : Int32))) → vp_in (I 0 47) 16)
    (e_5 : (¬ ((I 0 41) = 0 ∧ (I 0 38) = 4 ∧ (I 0 39) = (42 : Int32))) → WA X (mS I (up1 A 46 (upd (A 46) (I 0 47).toNatClampNeg (vp_nar .boolean 0))) J) plM 0 0 229 [(0, .ref 0), (1, .int x1), (2, .int x2), (3, .int x3), (4, .int x4)] []) :
    WA X (mS I A J) plM 0 0 201 [(0, .ref 0), (1, .int x1), (2, .int x2), (3, .int x3), (4, .int x4)] [] := by
  refine a_aload_n F 0 dX12_sayMove_201 rfl rfl ?_
  refine a_getr (b := 46) F fl_12_72 rfl (by decide) rfl rfl dX12_sayMove_202 ?_
  refine a_aload_n F 0 dX12_sayMove_205 rfl rfl ?_
  refine a_geti F fl_12_334 rfl (by decide) rfl dX12_sayMove_206 ?_
  refine a_aload_n F 0 dX12_sayMove_209 rfl rfl ?_
  refine a_bipush (v := 42) F dX12_sayMove_210 (by decide) ?_
  refine a_callV (b := 0) (As := [.int 42]) (st := [.int (I 0 47), .ref 46]) (ci := 12) F (c_is (xl X) I A J 42) ml_12_313 im_yX12_is se_yX12_is (by decide) (by decide) rfl (by decide) rfl rfl dX12_sayMove_212 (Nat.le_of_ble_eq_true rfl) (Nat.le_refl 0) (Nat.le_refl 0) (hl_r (by decide) (hl_i (hl_i (hl_i (hl_i hl_nil))))) (hs_i (hs_r (by decide) hs_nil)) ?_
  rintro _ _ _ ⟨rfl, rfl, rfl⟩ _
  show WA X (mS I A J) plM 0 0 215 [(0, .ref 0), (1, .int x1), (2, .int x2), (3, .int x3), (4, .int x4)] [.int (if (I 0 41) = 0 ∧ (I 0 38) = 4 ∧ (I 0 39) = (42 : Int32) then 1 else 0), .int (I 0 47), .ref 46]
  refine a_ite (fun (c_25 : (I 0 41) = 0 ∧ (I 0 38) = 4 ∧ (I 0 39) = (42 : Int32)) => ?_) (fun (c_25 : ¬ ((I 0 41) = 0 ∧ (I 0 38) = 4 ∧ (I 0 39) = (42 : Int32))) => ?_)
  · refine a_zast F (by decide) rfl (o_1 c_25) dX12_sayMove_215 ?_
    refine a_aload_n F 0 dX12_sayMove_216 rfl rfl ?_
    refine a_bipush (v := 42) F dX12_sayMove_217 (by decide) ?_
    refine a_callV (b := 0) (As := [.int 42]) (st := []) (ci := 12) F (c_is (xl X) I (up1 A 46 (upd (A 46) (I 0 47).toNatClampNeg (vp_nar .boolean 1))) J 42) ml_12_313 im_yX12_is se_yX12_is (by decide) (by decide) rfl (by decide) rfl rfl dX12_sayMove_219 (by decide) (Nat.le_refl 0) (Nat.le_refl 0) (hl_r (by decide) (hl_i (hl_i (hl_i (hl_i hl_nil))))) hs_nil ?_
    rintro _ _ _ ⟨rfl, rfl, rfl⟩ _
    show WA X (mS I (up1 A 46 (upd (A 46) (I 0 47).toNatClampNeg (vp_nar .boolean 1))) J) plM 0 0 222 [(0, .ref 0), (1, .int x1), (2, .int x2), (3, .int x3), (4, .int x4)] [.int (if (I 0 41) = 0 ∧ (I 0 38) = 4 ∧ (I 0 39) = (42 : Int32) then 1 else 0)]
    refine a_ite (fun (c_26 : (I 0 41) = 0 ∧ (I 0 38) = 4 ∧ (I 0 39) = (42 : Int32)) => ?_) (fun (c_26 : ¬ ((I 0 41) = 0 ∧ (I 0 38) = 4 ∧ (I 0 39) = (42 : Int32))) => ?_)
    · refine a_if_eq (tgt := 229) F dX12_sayMove_222 (by decide) (fun (c_27 : (1 : Int32) = 0) => ?_) (fun (c_27 : ¬ ((1 : Int32) = 0)) => ?_)
      · exact absurd c_27 (by decide)
      · refine a_aload_n F 0 dX12_sayMove_225 rfl rfl ?_
        refine a_callV (b := 0) (As := []) (st := []) (ci := 12) F (c_goI (xl X) I (up1 A 46 (upd (A 46) (I 0 47).toNatClampNeg (vp_nar .boolean 1))) J  (o_2 c_25)) ml_12_316 im_yX12_go se_yX12_go (by decide) (by decide) rfl (by decide) rfl rfl dX12_sayMove_226 (by decide) (Nat.le_refl 0) (Nat.le_refl 0) (hl_r (by decide) (hl_i (hl_i (hl_i (hl_i hl_nil))))) hs_nil ?_
        rintro _ _ _ ⟨rfl, rfl, rfl⟩ _
        show WA X (mS (gonI I (up1 A 46 (upd (A 46) (I 0 47).toNatClampNeg (vp_nar .boolean 1)))) (up1 A 46 (upd (A 46) (I 0 47).toNatClampNeg (vp_nar .boolean 1))) J) plM 0 0 229 [(0, .ref 0), (1, .int x1), (2, .int x2), (3, .int x3), (4, .int x4)] []
        exact e_3 c_25
    · exact absurd c_25 c_26
  · refine a_zast F (by decide) rfl (o_4 c_25) dX12_sayMove_215 ?_
    refine a_aload_n F 0 dX12_sayMove_216 rfl rfl ?_
    refine a_bipush (v := 42) F dX12_sayMove_217 (by decide) ?_
    refine a_callV (b := 0) (As := [.int 42]) (st := []) (ci := 12) F (c_is (xl X) I (up1 A 46 (upd (A 46) (I 0 47).toNatClampNeg (vp_nar .boolean 0))) J 42) ml_12_313 im_yX12_is se_yX12_is (by decide) (by decide) rfl (by decide) rfl rfl dX12_sayMove_219 (by decide) (Nat.le_refl 0) (Nat.le_refl 0) (hl_r (by decide) (hl_i (hl_i (hl_i (hl_i hl_nil))))) hs_nil ?_
    rintro _ _ _ ⟨rfl, rfl, rfl⟩ _
    show WA X (mS I (up1 A 46 (upd (A 46) (I 0 47).toNatClampNeg (vp_nar .boolean 0))) J) plM 0 0 222 [(0, .ref 0), (1, .int x1), (2, .int x2), (3, .int x3), (4, .int x4)] [.int (if (I 0 41) = 0 ∧ (I 0 38) = 4 ∧ (I 0 39) = (42 : Int32) then 1 else 0)]
    refine a_ite (fun (c_28 : (I 0 41) = 0 ∧ (I 0 38) = 4 ∧ (I 0 39) = (42 : Int32)) => ?_) (fun (c_28 : ¬ ((I 0 41) = 0 ∧ (I 0 38) = 4 ∧ (I 0 39) = (42 : Int32))) => ?_)
    · exact absurd c_28 c_25
    · refine a_if_eq (tgt := 229) F dX12_sayMove_222 (by decide) (fun (c_29 : (0 : Int32) = 0) => ?_) (fun (c_29 : ¬ ((0 : Int32) = 0)) => ?_)
      · exact e_5 c_25
      · exact absurd c_29 (by decide)

theorem r_12_sayMove_229 {X : Ctx} (F : Fx X cX12_sayMove RX12 6 4 0 0) {I A : Nat → Nat → Int32} {J : Nat → Nat → Int64} {x1 x2 x3 x4 : Int32}
    (e_1 : ((I 0 41) = 0 ∧ (I 0 38) = 4 ∧ (I 0 39) = (47 : Int32)) → WA X (mS (up2 I 0 47 ((I 0 47) + 1)) A J) plM 0 0 69 [(0, .ref 0), (1, .int x1), (2, .int x2), (3, .int 1)] [])
    (e_2 : (¬ ((I 0 41) = 0 ∧ (I 0 38) = 4 ∧ (I 0 39) = (47 : Int32))) → WA X (mS (up2 I 0 47 ((I 0 47) + 1)) A J) plM 0 0 69 [(0, .ref 0), (1, .int x1), (2, .int x2), (3, .int 0)] []) :
    WA X (mS I A J) plM 0 0 229 [(0, .ref 0), (1, .int x1), (2, .int x2), (3, .int x3), (4, .int x4)] [] := by
  refine a_aload_n F 0 dX12_sayMove_229 rfl rfl ?_
  refine a_dup F dX12_sayMove_230 rfl ?_
  refine a_geti F fl_12_334 rfl (by decide) rfl dX12_sayMove_231 ?_
  refine a_iconst (v := 1) F dX12_sayMove_234 (by decide) ?_
  refine a_iadd F dX12_sayMove_235 ?_
  refine a_puti F fl_12_334 rfl rfl rfl rfl (by decide) rfl dX12_sayMove_236 ?_
  refine a_aload_n F 0 dX12_sayMove_239 rfl rfl ?_
  refine a_bipush (v := 47) F dX12_sayMove_240 (by decide) ?_
  refine a_callV (b := 0) (As := [.int 47]) (st := []) (ci := 12) F (c_is (xl X) (up2 I 0 47 ((I 0 47) + 1)) A J 47) ml_12_313 im_yX12_is se_yX12_is (by decide) (by decide) rfl (by decide) rfl rfl dX12_sayMove_242 (by decide) (Nat.le_refl 0) (Nat.le_refl 0) (hl_r (by decide) (hl_i (hl_i (hl_i (hl_i hl_nil))))) hs_nil ?_
  rintro _ _ _ ⟨rfl, rfl, rfl⟩ _
  show WA X (mS (up2 I 0 47 ((I 0 47) + 1)) A J) plM 0 0 245 [(0, .ref 0), (1, .int x1), (2, .int x2), (3, .int x3), (4, .int x4)] [.int (if (I 0 41) = 0 ∧ (I 0 38) = 4 ∧ (I 0 39) = (47 : Int32) then 1 else 0)]
  refine a_ite (fun (c_30 : (I 0 41) = 0 ∧ (I 0 38) = 4 ∧ (I 0 39) = (47 : Int32)) => ?_) (fun (c_30 : ¬ ((I 0 41) = 0 ∧ (I 0 38) = 4 ∧ (I 0 39) = (47 : Int32))) => ?_)
  · refine a_istore_n F dX12_sayMove_245 rfl (by decide) rfl ?_
    refine a_goto (tgt := 69) F dX12_sayMove_246 (by decide) ?_
    refine a_sub [1, 2, 3, 0] rfl ?_
    exact e_1 c_30
  · refine a_istore_n F dX12_sayMove_245 rfl (by decide) rfl ?_
    refine a_goto (tgt := 69) F dX12_sayMove_246 (by decide) ?_
    refine a_sub [1, 2, 3, 0] rfl ?_
    exact e_2 c_30

theorem r_12_sayMove_249 {X : Ctx} (F : Fx X cX12_sayMove RX12 6 4 0 0) {Φ : Option Value → HS → List Nat → Prop} (E : Ex X none 0 0 Φ) {I A : Nat → Nat → Int32} {J : Nat → Nat → Int64} {x1 x2 x3 : Int32}
    (o_1 : ((I 0 41) = 0 ∧ (I 0 38) = 4 ∧ (I 0 39) = (40 : Int32)) → ∃ n i, n ≤ 400 ∧ i ≤ n ∧ (I 0 36) = nI n ∧ (I 0 37) = nI i)
    (e_2 : ((I 0 41) = 0 ∧ (I 0 38) = 4 ∧ (I 0 39) = (40 : Int32)) → WA X (mS (numI (gonI I A) (2 : Int32) (4 : Int32)) A J) plM 0 0 277 [(0, .ref 0), (1, .int x1), (2, .int x2), (3, .int x3), (4, .int (((numI (gonI I A) (2 : Int32) (4 : Int32)) 0 47) - x2))] [])
    (e_3 : (¬ ((I 0 41) = 0 ∧ (I 0 38) = 4 ∧ (I 0 39) = (40 : Int32))) → Φ none (mS I A J) plM) :
    WA X (mS I A J) plM 0 0 249 [(0, .ref 0), (1, .int x1), (2, .int x2), (3, .int x3)] [] := by
  refine a_aload_n F 0 dX12_sayMove_249 rfl rfl ?_
  refine a_bipush (v := 40) F dX12_sayMove_250 (by decide) ?_
  refine a_callV (b := 0) (As := [.int 40]) (st := []) (ci := 12) F (c_is (xl X) I A J 40) ml_12_313 im_yX12_is se_yX12_is (by decide) (by decide) rfl (by decide) rfl rfl dX12_sayMove_252 (by decide) (Nat.le_refl 0) (Nat.le_refl 0) (hl_r (by decide) (hl_i (hl_i (hl_i hl_nil)))) hs_nil ?_
  rintro _ _ _ ⟨rfl, rfl, rfl⟩ _
  show WA X (mS I A J) plM 0 0 255 [(0, .ref 0), (1, .int x1), (2, .int x2), (3, .int x3)] [.int (if (I 0 41) = 0 ∧ (I 0 38) = 4 ∧ (I 0 39) = (40 : Int32) then 1 else 0)]
  refine a_ite (fun (c_31 : (I 0 41) = 0 ∧ (I 0 38) = 4 ∧ (I 0 39) = (40 : Int32)) => ?_) (fun (c_31 : ¬ ((I 0 41) = 0 ∧ (I 0 38) = 4 ∧ (I 0 39) = (40 : Int32))) => ?_)
  · refine a_if_ne (tgt := 259) F dX12_sayMove_255 (by decide) (fun (c_32 : ¬ (1 : Int32) = 0) => ?_) (fun (c_32 : (1 : Int32) = 0) => ?_)
    · refine a_aload_n F 0 dX12_sayMove_259 rfl rfl ?_
      refine a_callV (b := 0) (As := []) (st := []) (ci := 12) F (c_goI (xl X) I A J  (o_1 c_31)) ml_12_316 im_yX12_go se_yX12_go (by decide) (by decide) rfl (by decide) rfl rfl dX12_sayMove_260 (by decide) (Nat.le_refl 0) (Nat.le_refl 0) (hl_r (by decide) (hl_i (hl_i (hl_i hl_nil)))) hs_nil ?_
      rintro _ _ _ ⟨rfl, rfl, rfl⟩ _
      show WA X (mS (gonI I A) A J) plM 0 0 263 [(0, .ref 0), (1, .int x1), (2, .int x2), (3, .int x3)] []
      refine a_aload_n F 0 dX12_sayMove_263 rfl rfl ?_
      refine a_iconst (v := 2) F dX12_sayMove_264 (by decide) ?_
      refine a_iconst (v := 4) F dX12_sayMove_265 (by decide) ?_
      refine a_callV (b := 0) (As := [.int 2, .int 4]) (st := []) (ci := 12) F (c_isNumber (xl X) (gonI I A) A J 2 4) ml_12_331 im_yX12_isNumber se_yX12_isNumber (by decide) (by decide) rfl (by decide) rfl rfl dX12_sayMove_266 (by decide) (Nat.le_refl 0) (Nat.le_refl 0) (hl_r (by decide) (hl_i (hl_i (hl_i hl_nil)))) hs_nil ?_
      rintro _ _ _ ⟨rfl, rfl, rfl⟩ _
      show WA X (mS (numI (gonI I A) (2 : Int32) (4 : Int32)) A J) plM 0 0 269 [(0, .ref 0), (1, .int x1), (2, .int x2), (3, .int x3)] []
      refine a_aload_n F 0 dX12_sayMove_269 rfl rfl ?_
      refine a_geti F fl_12_334 rfl (by decide) rfl dX12_sayMove_270 ?_
      refine a_iload_n F 2 dX12_sayMove_273 rfl rfl ?_
      refine a_isub F dX12_sayMove_274 ?_
      refine a_istore F dX12_sayMove_275 (by decide) rfl ?_
      refine a_sub [1, 2, 3, 4, 0] rfl ?_
      exact e_2 c_31
    · exact absurd c_32 (by decide)
  · refine a_if_ne (tgt := 259) F dX12_sayMove_255 (by decide) (fun (c_33 : ¬ (0 : Int32) = 0) => ?_) (fun (c_33 : (0 : Int32) = 0) => ?_)
    · exact absurd c_33 (by decide)
    · exact a_vret F E dX12_sayMove_258 (Nat.le_refl 0) (Nat.le_refl 0) (e_3 c_31)

theorem r_12_sayMove_277 {X : Ctx} (F : Fx X cX12_sayMove RX12 6 4 0 0) {I A : Nat → Nat → Int32} {J : Nat → Nat → Int64} {x1 x2 x3 x4 : Int32}
    (e_1 : ((I 0 41) = 0) → ((x2 + (x4 * (I 0 39))) ≤ 8) → WA X (mS I A J) plM 0 0 308 [(0, .ref 0), (1, .int x1), (2, .int x2), (3, .int x3), (4, .int x4)] [])
    (e_2 : ((I 0 41) = 0) → (¬ ((x2 + (x4 * (I 0 39))) ≤ 8)) → WA X (mS (wrongI I (7 : Int32) (I 0 40)) A J) plM 0 0 308 [(0, .ref 0), (1, .int x1), (2, .int x2), (3, .int x3), (4, .int x4)] [])
    (e_3 : (¬ ((I 0 41) = 0)) → WA X (mS I A J) plM 0 0 308 [(0, .ref 0), (1, .int x1), (2, .int x2), (3, .int x3), (4, .int x4)] []) :
    WA X (mS I A J) plM 0 0 277 [(0, .ref 0), (1, .int x1), (2, .int x2), (3, .int x3), (4, .int x4)] [] := by
  refine a_aload_n F 0 dX12_sayMove_277 rfl rfl ?_
  refine a_callV (b := 0) (As := []) (st := []) (ci := 12) F (c_fine (xl X) I A J ) ml_12_310 im_yX12_fine se_yX12_fine (by decide) (by decide) rfl (by decide) rfl rfl dX12_sayMove_278 (by decide) (Nat.le_refl 0) (Nat.le_refl 0) (hl_r (by decide) (hl_i (hl_i (hl_i (hl_i hl_nil))))) hs_nil ?_
  rintro _ _ _ ⟨rfl, rfl, rfl⟩ _
  show WA X (mS I A J) plM 0 0 281 [(0, .ref 0), (1, .int x1), (2, .int x2), (3, .int x3), (4, .int x4)] [.int (if (I 0 41) = 0 then 1 else 0)]
  refine a_ite (fun (c_34 : (I 0 41) = 0) => ?_) (fun (c_34 : ¬ ((I 0 41) = 0)) => ?_)
  · refine a_if_eq (tgt := 308) F dX12_sayMove_281 (by decide) (fun (c_35 : (1 : Int32) = 0) => ?_) (fun (c_35 : ¬ ((1 : Int32) = 0)) => ?_)
    · exact absurd c_35 (by decide)
    · refine a_iload_n F 2 dX12_sayMove_284 rfl rfl ?_
      refine a_iload F 4 dX12_sayMove_285 rfl ?_
      refine a_aload_n F 0 dX12_sayMove_287 rfl rfl ?_
      refine a_geti F fl_12_296 rfl (by decide) rfl dX12_sayMove_288 ?_
      refine a_imul F dX12_sayMove_291 ?_
      refine a_iadd F dX12_sayMove_292 ?_
      refine a_bipush (v := 8) F dX12_sayMove_293 (by decide) ?_
      refine a_icmp_le (tgt := 308) F dX12_sayMove_295 (by decide) (fun (c_36 : (x2 + (x4 * (I 0 39))) ≤ 8) => ?_) (fun (c_36 : ¬ ((x2 + (x4 * (I 0 39))) ≤ 8)) => ?_)
      · exact e_1 c_34 c_36
      · refine a_aload_n F 0 dX12_sayMove_298 rfl rfl ?_
        refine a_bipush (v := 7) F dX12_sayMove_299 (by decide) ?_
        refine a_aload_n F 0 dX12_sayMove_301 rfl rfl ?_
        refine a_geti F fl_12_293 rfl (by decide) rfl dX12_sayMove_302 ?_
        refine a_callV (b := 0) (As := [.int 7, .int (I 0 40)]) (st := []) (ci := 12) F (c_wrong (xl X) I A J 7 (I 0 40)) ml_12_319 im_yX12_wrong se_yX12_wrong (by decide) (by decide) rfl (by decide) rfl rfl dX12_sayMove_305 (by decide) (Nat.le_refl 0) (Nat.le_refl 0) (hl_r (by decide) (hl_i (hl_i (hl_i (hl_i hl_nil))))) hs_nil ?_
        rintro _ _ _ ⟨rfl, rfl, rfl⟩ _
        show WA X (mS (wrongI I (7 : Int32) (I 0 40)) A J) plM 0 0 308 [(0, .ref 0), (1, .int x1), (2, .int x2), (3, .int x3), (4, .int x4)] []
        exact e_2 c_34 c_36
  · refine a_if_eq (tgt := 308) F dX12_sayMove_281 (by decide) (fun (c_37 : (0 : Int32) = 0) => ?_) (fun (c_37 : ¬ ((0 : Int32) = 0)) => ?_)
    · exact e_3 c_34
    · exact absurd c_37 (by decide)

theorem r_12_sayMove_308 {X : Ctx} (F : Fx X cX12_sayMove RX12 6 4 0 0) {Φ : Option Value → HS → List Nat → Prop} (E : Ex X none 0 0 Φ) {I A : Nat → Nat → Int32} {J : Nat → Nat → Int64} {x1 x2 x3 x4 : Int32}
    (e_1 : ((I 0 41) = 0) → WA X (mS I A J) plM 0 0 320 [(0, .ref 0), (1, .int x1), (2, .int x2), (3, .int x3), (4, .int x4), (5, .int x4)] [])
    (e_2 : (¬ ((I 0 41) = 0)) → Φ none (mS I A J) plM) :
    WA X (mS I A J) plM 0 0 308 [(0, .ref 0), (1, .int x1), (2, .int x2), (3, .int x3), (4, .int x4)] [] := by
  refine a_aload_n F 0 dX12_sayMove_308 rfl rfl ?_
  refine a_callV (b := 0) (As := []) (st := []) (ci := 12) F (c_fine (xl X) I A J ) ml_12_310 im_yX12_fine se_yX12_fine (by decide) (by decide) rfl (by decide) rfl rfl dX12_sayMove_309 (by decide) (Nat.le_refl 0) (Nat.le_refl 0) (hl_r (by decide) (hl_i (hl_i (hl_i (hl_i hl_nil))))) hs_nil ?_
  rintro _ _ _ ⟨rfl, rfl, rfl⟩ _
  show WA X (mS I A J) plM 0 0 312 [(0, .ref 0), (1, .int x1), (2, .int x2), (3, .int x3), (4, .int x4)] [.int (if (I 0 41) = 0 then 1 else 0)]
  refine a_ite (fun (c_38 : (I 0 41) = 0) => ?_) (fun (c_38 : ¬ ((I 0 41) = 0)) => ?_)
  · refine a_if_ne (tgt := 316) F dX12_sayMove_312 (by decide) (fun (c_39 : ¬ (1 : Int32) = 0) => ?_) (fun (c_39 : (1 : Int32) = 0) => ?_)
    · refine a_iload F 4 dX12_sayMove_316 rfl ?_
      refine a_istore F dX12_sayMove_318 (by decide) rfl ?_
      refine a_sub [1, 2, 3, 4, 5, 0] rfl ?_
      exact e_1 c_38
    · exact absurd c_39 (by decide)
  · refine a_if_ne (tgt := 316) F dX12_sayMove_312 (by decide) (fun (c_40 : ¬ (0 : Int32) = 0) => ?_) (fun (c_40 : (0 : Int32) = 0) => ?_)
    · exact absurd c_40 (by decide)
    · exact a_vret F E dX12_sayMove_315 (Nat.le_refl 0) (Nat.le_refl 0) (e_2 c_38)

theorem r_12_sayMove_320 {X : Ctx} (F : Fx X cX12_sayMove RX12 6 4 0 0) {Φ : Option Value → HS → List Nat → Prop} (E : Ex X none 0 0 Φ) {I A : Nat → Nat → Int32} {J : Nat → Nat → Int64} {x1 x2 x3 x4 x5 : Int32}
    (o_1 : ((x4 * (I 0 39)) ≤ x5) → ∃ n i, n ≤ 400 ∧ i ≤ n ∧ (I 0 36) = nI n ∧ (I 0 37) = nI i)
    (o_2 : ((x4 * (I 0 39)) ≤ x5) → ((gonI (up2 I 0 47 (x2 + (x4 * (I 0 39)))) A) 0 41) = 0 → ((gonI (up2 I 0 47 (x2 + (x4 * (I 0 39)))) A) 0 38) = 4 → okT (gonI (up2 I 0 47 (x2 + (x4 * (I 0 39)))) A))
    (e_3 : ((x4 * (I 0 39)) ≤ x5) → Φ none (mS (needI (gonI (up2 I 0 47 (x2 + (x4 * (I 0 39)))) A) A (41 : Int32)) A J) plM)
    (o_4 : (¬ ((x4 * (I 0 39)) ≤ x5)) → vp_in ((x2 + x5) - x4) 16)
    (o_5 : (¬ ((x4 * (I 0 39)) ≤ x5)) → vp_in (x2 + x5) 16)
    (o_6 : (¬ ((x4 * (I 0 39)) ≤ x5)) → vp_in ((x2 + x5) - x4) 16)
    (o_7 : (¬ ((x4 * (I 0 39)) ≤ x5)) → vp_in (x2 + x5) 16)
    (o_8 : (¬ ((x4 * (I 0 39)) ≤ x5)) → vp_in (x2 + x5) 16)
    (e_9 : (¬ ((x4 * (I 0 39)) ≤ x5)) → WA X (mS I (up1 (up1 (up1 A 44 (upd (A 44) (x2 + x5).toNatClampNeg (A 44 ((x2 + x5) - x4).toNatClampNeg))) 45 (upd (A 45) (x2 + x5).toNatClampNeg (A 45 ((x2 + x5) - x4).toNatClampNeg))) 46 (upd (A 46) (x2 + x5).toNatClampNeg (vp_nar .boolean 0))) J) plM 0 0 320 [(0, .ref 0), (1, .int x1), (2, .int x2), (3, .int x3), (4, .int x4), (5, .int (x5 + 1))] []) :
    WA X (mS I A J) plM 0 0 320 [(0, .ref 0), (1, .int x1), (2, .int x2), (3, .int x3), (4, .int x4), (5, .int x5)] [] := by
  refine a_iload F 5 dX12_sayMove_320 rfl ?_
  refine a_iload F 4 dX12_sayMove_322 rfl ?_
  refine a_aload_n F 0 dX12_sayMove_324 rfl rfl ?_
  refine a_geti F fl_12_296 rfl (by decide) rfl dX12_sayMove_325 ?_
  refine a_imul F dX12_sayMove_328 ?_
  refine a_icmp_ge (tgt := 390) F dX12_sayMove_329 (by decide) (fun (c_41 : (x4 * (I 0 39)) ≤ x5) => ?_) (fun (c_41 : ¬ ((x4 * (I 0 39)) ≤ x5)) => ?_)
  · refine a_aload_n F 0 dX12_sayMove_390 rfl rfl ?_
    refine a_iload_n F 2 dX12_sayMove_391 rfl rfl ?_
    refine a_iload F 4 dX12_sayMove_392 rfl ?_
    refine a_aload_n F 0 dX12_sayMove_394 rfl rfl ?_
    refine a_geti F fl_12_296 rfl (by decide) rfl dX12_sayMove_395 ?_
    refine a_imul F dX12_sayMove_398 ?_
    refine a_iadd F dX12_sayMove_399 ?_
    refine a_puti F fl_12_334 rfl rfl rfl rfl (by decide) rfl dX12_sayMove_400 ?_
    refine a_aload_n F 0 dX12_sayMove_403 rfl rfl ?_
    refine a_callV (b := 0) (As := []) (st := []) (ci := 12) F (c_goI (xl X) (up2 I 0 47 (x2 + (x4 * (I 0 39)))) A J  (o_1 c_41)) ml_12_316 im_yX12_go se_yX12_go (by decide) (by decide) rfl (by decide) rfl rfl dX12_sayMove_404 (by decide) (Nat.le_refl 0) (Nat.le_refl 0) (hl_r (by decide) (hl_i (hl_i (hl_i (hl_i (hl_i hl_nil)))))) hs_nil ?_
    rintro _ _ _ ⟨rfl, rfl, rfl⟩ _
    show WA X (mS (gonI (up2 I 0 47 (x2 + (x4 * (I 0 39)))) A) A J) plM 0 0 407 [(0, .ref 0), (1, .int x1), (2, .int x2), (3, .int x3), (4, .int x4), (5, .int x5)] []
    refine a_aload_n F 0 dX12_sayMove_407 rfl rfl ?_
    refine a_bipush (v := 41) F dX12_sayMove_408 (by decide) ?_
    refine a_callV (b := 0) (As := [.int 41]) (st := []) (ci := 12) F (c_need (xl X) (gonI (up2 I 0 47 (x2 + (x4 * (I 0 39)))) A) A J 41 (o_2 c_41)) ml_12_328 im_yX12_need se_yX12_need (by decide) (by decide) rfl (by decide) rfl rfl dX12_sayMove_410 (by decide) (Nat.le_refl 0) (Nat.le_refl 0) (hl_r (by decide) (hl_i (hl_i (hl_i (hl_i (hl_i hl_nil)))))) hs_nil ?_
    rintro _ _ _ ⟨rfl, rfl, rfl⟩ _
    show WA X (mS (needI (gonI (up2 I 0 47 (x2 + (x4 * (I 0 39)))) A) A (41 : Int32)) A J) plM 0 0 413 [(0, .ref 0), (1, .int x1), (2, .int x2), (3, .int x3), (4, .int x4), (5, .int x5)] []
    exact a_vret F E dX12_sayMove_413 (Nat.le_refl 0) (Nat.le_refl 0) (e_3 c_41)
  · refine a_aload_n F 0 dX12_sayMove_332 rfl rfl ?_
    refine a_getr (b := 44) F fl_12_66 rfl (by decide) rfl rfl dX12_sayMove_333 ?_
    refine a_iload_n F 2 dX12_sayMove_336 rfl rfl ?_
    refine a_iload F 5 dX12_sayMove_337 rfl ?_
    refine a_iadd F dX12_sayMove_339 ?_
    refine a_aload_n F 0 dX12_sayMove_340 rfl rfl ?_
    refine a_getr (b := 44) F fl_12_66 rfl (by decide) rfl rfl dX12_sayMove_341 ?_
    refine a_iload_n F 2 dX12_sayMove_344 rfl rfl ?_
    refine a_iload F 5 dX12_sayMove_345 rfl ?_
    refine a_iadd F dX12_sayMove_347 ?_
    refine a_iload F 4 dX12_sayMove_348 rfl ?_
    refine a_isub F dX12_sayMove_350 ?_
    refine a_iald F (by decide) rfl (o_4 c_41) dX12_sayMove_351 ?_
    refine a_iast F (by decide) rfl (o_5 c_41) dX12_sayMove_352 ?_
    refine a_aload_n F 0 dX12_sayMove_353 rfl rfl ?_
    refine a_getr (b := 45) F fl_12_69 rfl (by decide) rfl rfl dX12_sayMove_354 ?_
    refine a_iload_n F 2 dX12_sayMove_357 rfl rfl ?_
    refine a_iload F 5 dX12_sayMove_358 rfl ?_
    refine a_iadd F dX12_sayMove_360 ?_
    refine a_aload_n F 0 dX12_sayMove_361 rfl rfl ?_
    refine a_getr (b := 45) F fl_12_69 rfl (by decide) rfl rfl dX12_sayMove_362 ?_
    refine a_iload_n F 2 dX12_sayMove_365 rfl rfl ?_
    refine a_iload F 5 dX12_sayMove_366 rfl ?_
    refine a_iadd F dX12_sayMove_368 ?_
    refine a_iload F 4 dX12_sayMove_369 rfl ?_
    refine a_isub F dX12_sayMove_371 ?_
    refine a_iald F (by decide) rfl (o_6 c_41) dX12_sayMove_372 ?_
    refine a_iast F (by decide) rfl (o_7 c_41) dX12_sayMove_373 ?_
    refine a_aload_n F 0 dX12_sayMove_374 rfl rfl ?_
    refine a_getr (b := 46) F fl_12_72 rfl (by decide) rfl rfl dX12_sayMove_375 ?_
    refine a_iload_n F 2 dX12_sayMove_378 rfl rfl ?_
    refine a_iload F 5 dX12_sayMove_379 rfl ?_
    refine a_iadd F dX12_sayMove_381 ?_
    refine a_iconst (v := 0) F dX12_sayMove_382 (by decide) ?_
    refine a_zast F (by decide) rfl (o_8 c_41) dX12_sayMove_383 ?_
    refine a_iinc (v := x5 + 1) F 5 dX12_sayMove_384 rfl rfl (by decide) rfl ?_
    refine a_goto (tgt := 320) F dX12_sayMove_387 (by decide) ?_
    refine a_sub [1, 2, 3, 4, 5, 0] rfl ?_
    exact e_9 c_41

set_option maxRecDepth 10000 in
theorem c_sayMove (l : Launch) (I A : Nat → Nat → Int32) (J : Nat → Nat → Int64) (n p : Nat) (mv : MV) (h0 : I 0 41 = 0) (hp : AtP I (A 34) n p) (h47 : I 0 47 = nI mv.1) (hmv : mvRow A mv) : Con l 4 yX12_sayMove cX12_sayMove 6 none [.ref 0] (mS I A J) plM 0 0 (sayQ I A J n (moveF (A 34) n mv p)) := by
  refine Con.of (by decide) (Nat.le_of_ble_eq_true rfl) (fun X hX9 hn9 F E => ?_)
  have AF : ∀ {A' : Nat → Nat → Int32}, (∀ q, q ≠ 44 → q ≠ 45 → q ≠ 46 → A' q = A q) → A' 34 = A 34 := fun h => h 34 (by decide) (by decide) (by decide)
  have err : ∀ (I' A' : Nat → Nat → Int32) (f q : Nat), f ≠ 0 → f < 10 → q ≤ n → I' 0 41 = 0 → I' 0 40 = nI q → FrM I I' → (∀ q, q ≠ 44 → q ≠ 45 → q ≠ 46 → A' q = A q) → ¬ wrongI I' (nI f) (I' 0 40) 0 41 = 0 ∧ sayQ I A J n (.error (f, q)) none (mS (wrongI I' (nI f) (I' 0 40)) A' J) plM := by
    intro I' A' f q hf hf2 hq h41 h40 hfr hA
    have w := wrong_0 (f := nI f) (p := I' 0 40) h41
    exact ⟨by rw [w.1]; exact nI_ne0 (by omega) (by omega), rfl, rfl, _, A', rfl, hfr.tr (FrM.of (wrong_fr _ _ _)), hA, hf, hf2, hq, w.1, by rw [w.2]; exact h40⟩
  -- behind a FAULT
  have d147 : ∀ (I' A' : Nat → Nat → Int32) (x1 x2 x3 x4 : Int32) (Φ : Option Value → HS → List Nat → Prop), Ex X none 0 0 Φ → ¬ I' 0 41 = 0 → Φ none (mS I' A' J) plM → WA X (mS I' A' J) plM 0 0 147 [(0, .ref 0), (1, .int x1), (2, .int x2), (3, .int x3), (4, .int x4)] [] := fun I' A' x1 x2 x3 x4 Φ E hd hΦ => r_12_sayMove_147 F E (fun h => absurd h hd) (fun _ => hΦ)
  have d128 : ∀ (I' A' : Nat → Nat → Int32) (x1 x2 x3 x4 : Int32) (Φ : Option Value → HS → List Nat → Prop), Ex X none 0 0 Φ → ¬ I' 0 41 = 0 → Φ none (mS I' A' J) plM → WA X (mS I' A' J) plM 0 0 128 [(0, .ref 0), (1, .int x1), (2, .int x2), (3, .int x3), (4, .int x4)] [] := fun I' A' x1 x2 x3 x4 Φ E hd hΦ => r_12_sayMove_128 F (fun _ => d147 I' A' x1 x2 x3 x4 Φ E hd hΦ) (fun _ => by rw [wrong_d hd]; exact d147 I' A' x1 x2 x3 x4 Φ E hd hΦ)
  have d86 : ∀ (I' A' : Nat → Nat → Int32) (x1 x2 x3 : Int32) (Φ : Option Value → HS → List Nat → Prop), Ex X none 0 0 Φ → ¬ I' 0 41 = 0 → Φ none (mS I' A' J) plM → WA X (mS I' A' J) plM 0 0 86 [(0, .ref 0), (1, .int x1), (2, .int x2), (3, .int x3)] [] := fun I' A' x1 x2 x3 Φ E hd hΦ => r_12_sayMove_86 F (fun h => absurd h hd) (fun h => absurd h hd) (fun h => absurd h hd) (fun _ => r_12_sayMove_116 F (fun h => absurd rfl h) (fun _ => by rw [num_d hd]; exact d128 I' A' x1 x2 x3 0 Φ E hd hΦ))
  -- behind the steps
  have tail : ∀ (q : Nat) (mv' : MV) (I' A' : Nat → Nat → Int32) (x1 x3 : Int32), mv.1 < mv'.1 → I' 0 41 = 0 → I' 0 42 = I 0 42 → AtP I' (A 34) n q → I' 0 47 = nI mv'.1 → mvRow A' mv' → FrM I I' → (∀ q, q ≠ 44 → q ≠ 45 → q ≠ 46 → A' q = A q) → Ex X none 0 0 (sayQ I A J n (tailF (A 34) n mv.1 q mv')) → WA X (mS I' A' J) plM 0 0 249 [(0, .ref 0), (1, .int x1), (2, .int (nI mv.1)), (3, .int x3)] [] := by
    intro q mv' I' A' x1 x3 hgt h41 h42 hq h47' hmv' hfr hA E
    have h8 := hmv'.1
    obtain ⟨hn, hqn, h36a, h37a, h38a, h39a, h40a⟩ := id hq
    refine r_12_sayMove_249 F E (fun c => hq.ok (tk_lt (by rw [← h38a, c.2.1]; decide))) (fun c => ?_) (fun c => ?_)
    · rw [h38a, h39a] at c
      unfold tailF at E
      rw [if_neg (fun z => z c.2)] at E
      have hlt : q < n := tk_lt (by rw [c.2.1]; decide)
      rw [gon_A (A := A) (AF hA)]
      have g41 : gonI I' A 0 41 = 0 := by rw [gon_k (by decide)]; exact h41
      have g42 : gonI I' A 0 42 = I 0 42 := by rw [gon_k (by decide)]; exact h42
      have g47 : gonI I' A 0 47 = nI mv'.1 := by rw [gon_k (by decide)]; exact h47'
      have gAt := hq.go hlt
      have gfr := hfr.tr (FrM.of (gon_fr I' A))
      generalize gonI I' A = I2 at g41 g42 g47 gAt gfr ⊢
      obtain ⟨-, hqn1, h36b, h37b, h38b, h39b, h40b⟩ := id gAt
      have dd : ∀ (I3 : Nat → Nat → Int32) (x4 : Int32), ¬ I3 0 41 = 0 → sayQ I A J n (tailF (A 34) n mv.1 q mv') none (mS I3 A' J) plM → Ex X none 0 0 (sayQ I A J n (tailF (A 34) n mv.1 q mv')) → WA X (mS I3 A' J) plM 0 0 277 [(0, .ref 0), (1, .int x1), (2, .int (nI mv.1)), (3, .int x3), (4, .int x4)] [] := fun I3 x4 hd hΦ E => r_12_sayMove_277 F (fun h => absurd h hd) (fun h => absurd h hd) (fun _ => r_12_sayMove_308 F E (fun h => absurd h hd) (fun _ => hΦ))
      have E0 := E
      have et : tailF (A 34) n mv.1 q mv' = tailF (A 34) n mv.1 q mv' := rfl
      by_cases c1 : ¬ tkS (A 34) n (nxP (A 34) n q) = 2
      · rw [if_pos c1] at E
        obtain ⟨hd, hΦ⟩ := err I2 A' 1 _ (by omega) (by omega) hqn1 g41 h40b gfr hA
        rw [num_1 g41 (by rw [h38b]; exact c1)]
        exact r_12_sayMove_277 F (fun h => absurd h hd) (fun h => absurd h hd) (fun _ => r_12_sayMove_308 F E (fun h => absurd h hd) (fun _ => hΦ))
      · rw [if_neg c1] at E
        have c1 := Classical.not_not.mp c1
        have hlt1 : nxP (A 34) n q < n := tk_lt (by rw [c1]; decide)
        by_cases c2 : tkV (A 34) n (nxP (A 34) n q) < 2 ∨ 4 < tkV (A 34) n (nxP (A 34) n q)
        · rw [if_pos c2] at E
          obtain ⟨hd, hΦ⟩ := err I2 A' 2 _ (by omega) (by omega) hqn1 g41 h40b gfr hA
          rw [num_2 g41 (by rw [h38b]; exact c1) (by rw [h39b]; exact c2)]
          exact r_12_sayMove_277 F (fun h => absurd h hd) (fun h => absurd h hd) (fun _ => r_12_sayMove_308 F E (fun h => absurd h hd) (fun _ => hΦ))
        · rw [if_neg c2] at E
          rw [num_t g41 (by rw [h38b]; exact c1) (by rw [h39b]; exact c2), g47, pk_sub (Nat.le_of_lt hgt)]
          obtain ⟨v, hv, ev⟩ := nI_of2 (x := tkV (A 34) n (nxP (A 34) n q)) (M := 4) (n := 4) rfl (by grind) (by grind)
          have hv2 : 2 ≤ v := by
            rcases Nat.lt_or_ge v 2 with h | h
            · exfalso; apply c2; left; rw [ev]; exact nI_lt (b := 2) h (by omega)
            · exact h
          have eN : tkN (A 34) n (nxP (A 34) n q) = v := by unfold tkN; rw [ev]; exact nI_clamp (by omega)
          rw [eN] at E
          have ep : nI (mv'.1 - mv.1) * I2 0 39 = nI ((mv'.1 - mv.1) * v) := by rw [h39b, ev, pk_mul]
          have hb : (mv'.1 - mv.1) * v ≤ 8 * 4 := Nat.mul_le_mul (by omega) hv
          refine r_12_sayMove_277 F (fun _ c3 => ?_) (fun _ c3 => ?_) (fun h => absurd g41 h)
          · rw [ep, nI_add, nI_len 8 (by omega) (by omega)] at c3
            rw [if_neg (by omega)] at E
            refine r_12_sayMove_308 F E (fun _ => ?_) (fun h => absurd g41 h)
            -- the loop of repeated moves
            have hs1 : 1 ≤ mv'.1 - mv.1 := by omega
            have hsv : mv'.1 - mv.1 ≤ (mv'.1 - mv.1) * v := Nat.le_mul_of_pos_right _ (by omega)
            have loop : ∀ f i (A3 : Nat → Nat → Int32), (mv'.1 - mv.1) + i + f = (mv'.1 - mv.1) * v → mvRow A3 (mvRep mv' mv.1 (mv'.1 - mv.1) i) → (∀ q, q ≠ 44 → q ≠ 45 → q ≠ 46 → A3 q = A q) → WA X (mS I2 A3 J) plM 0 0 320 [(0, .ref 0), (1, .int x1), (2, .int (nI mv.1)), (3, .int x3), (4, .int (nI (mv'.1 - mv.1))), (5, .int (nI ((mv'.1 - mv.1) + i)))] [] := by
              intro f
              induction f with
              | zero =>
                intro i A3 hi hr hA3
                have hle : nI (mv'.1 - mv.1) * I2 0 39 ≤ nI ((mv'.1 - mv.1) + i) := by rw [ep]; exact nI_le (by omega) (by omega)
                refine r_12_sayMove_320 F E (fun _ => gAt.ok hlt1) (fun _ => ?_) (fun _ => ?_) (fun h => absurd hle h) (fun h => absurd hle h) (fun h => absurd hle h) (fun h => absurd hle h) (fun h => absurd hle h) (fun h => absurd hle h)
                · rw [ep, nI_add, gon_A (A := A) (AF hA3)]
                  intro _ h4
                  have u : AtP (up2 I2 0 47 (nI (mv.1 + (mv'.1 - mv.1) * v))) (A 34) n (nxP (A 34) n q) := ⟨hn, hqn1, h36b, h37b, h38b, h39b, h40b⟩
                  exact (u.go hlt1).ok (tk_lt (by rw [← (u.go hlt1).2.2.2.2.1, h4]; decide))
                · rw [ep, nI_add, gon_A (A := A) (AF hA3)]
                  have u : AtP (up2 I2 0 47 (nI (mv.1 + (mv'.1 - mv.1) * v))) (A 34) n (nxP (A 34) n q) := ⟨hn, hqn1, h36b, h37b, h38b, h39b, h40b⟩
                  have uAt := u.go hlt1
                  have u41 : gonI (up2 I2 0 47 (nI (mv.1 + (mv'.1 - mv.1) * v))) A 0 41 = 0 := by rw [gon_k (by decide), up2_k (by decide)]; exact g41
                  have u42 : gonI (up2 I2 0 47 (nI (mv.1 + (mv'.1 - mv.1) * v))) A 0 42 = I 0 42 := by rw [gon_k (by decide), up2_k (by decide)]; exact g42
                  have u47 : gonI (up2 I2 0 47 (nI (mv.1 + (mv'.1 - mv.1) * v))) A 0 47 = nI (mv.1 + (mv'.1 - mv.1) * v) := by rw [gon_k (by decide), up2_s]
                  have ufr : FrM I (gonI (up2 I2 0 47 (nI (mv.1 + (mv'.1 - mv.1) * v))) A) := (gfr.tr (fun k h1 h2 => up2_k h2)).tr (FrM.of (gon_fr _ _))
                  generalize gonI (up2 I2 0 47 (nI (mv.1 + (mv'.1 - mv.1) * v))) A = I4 at uAt u41 u42 u47 ufr ⊢
                  obtain ⟨-, hqn2, h36c, h37c, h38c, h39c, h40c⟩ := id uAt
                  by_cases c4 : ¬ (tkS (A 34) n (nxP (A 34) n (nxP (A 34) n q)) = 4 ∧ tkV (A 34) n (nxP (A 34) n (nxP (A 34) n q)) = 41)
                  · rw [if_pos c4]
                    rw [need_f (by rw [h38c, h39c]; exact c4)]
                    exact (err I4 A3 1 _ (by omega) (by omega) hqn2 u41 h40c ufr hA3).2
                  · rw [if_neg c4]
                    have c4 := Classical.not_not.mp c4
                    have hlt2 : nxP (A 34) n (nxP (A 34) n q) < n := tk_lt (by rw [c4.1]; decide)
                    rw [need_t u41 (by rw [h38c]; exact c4.1) (by rw [h39c]; exact c4.2), gon_A (A := A) (AF hA3)]
                    refine ⟨rfl, rfl, _, A3, rfl, ufr.tr (FrM.of (gon_fr _ _)), hA3, by rw [gon_k (by decide)]; exact u41, by rw [gon_k (by decide)]; exact u42, uAt.go hlt2, ?_, ?_⟩
                    · rw [gon_k (by decide), u47]
                      show nI _ = nI (mv.1 + (mv'.1 - mv.1) + ((mv'.1 - mv.1) * v - (mv'.1 - mv.1)))
                      congr 1; omega
                    · have : (mv'.1 - mv.1) * v - (mv'.1 - mv.1) = i := by omega
                      show mvRow A3 (mvRep mv' mv.1 (mv'.1 - mv.1) ((mv'.1 - mv.1) * v - (mv'.1 - mv.1)))
                      rw [this]; exact hr
              | succ f ih =>
                intro i A3 hi hr hA3
                have hlt9 : ¬ nI (mv'.1 - mv.1) * I2 0 39 ≤ nI ((mv'.1 - mv.1) + i) := by rw [ep]; exact nI_ge (by omega) (by omega)
                have e1 : nI mv.1 + nI ((mv'.1 - mv.1) + i) = nI (mv.1 + (mv'.1 - mv.1) + i) := by rw [nI_add]; congr 1; omega
                have e2 : nI (mv.1 + (mv'.1 - mv.1) + i) - nI (mv'.1 - mv.1) = nI (mv.1 + i) := by rw [pk_sub (by omega)]; congr 1; omega
                refine r_12_sayMove_320 F E (fun h => absurd h hlt9) (fun h => absurd h hlt9) (fun h => absurd h hlt9) (fun _ => ?_) (fun _ => ?_) (fun _ => ?_) (fun _ => ?_) (fun _ => ?_) (fun _ => ?_)
                · rw [e1, e2]; exact vp_in_nI (by omega) (by omega)
                · rw [e1]; exact vp_in_nI (by omega) (by omega)
                · rw [e1, e2]; exact vp_in_nI (by omega) (by omega)
                · rw [e1]; exact vp_in_nI (by omega) (by omega)
                · rw [e1]; exact vp_in_nI (by omega) (by omega)
                · rw [e1, e2, nI_clamp (by omega), nI_clamp (by omega), nI_1, show vp_nar .boolean 0 = 0 by decide +kernel]
                  have hr' := hr.2 (mv.1 + i) (by show mv.1 + i < mv.1 + (mv'.1 - mv.1) + i; omega)
                  refine ih (i + 1) _ (by omega) ?_ (fun q h1 h2 h3 => by rw [up1_p h3, up1_p h2, up1_p h1]; exact hA3 q h1 h2 h3)
                  refine ⟨by show mv.1 + (mv'.1 - mv.1) + (i + 1) ≤ 8; omega, fun k hk => ?_⟩
                  have hk : k < mv.1 + (mv'.1 - mv.1) + (i + 1) := hk
                  rw [up1_s, up1_p (show (45 : Nat) ≠ 46 by decide), up1_s, up1_p (show (44 : Nat) ≠ 46 by decide), up1_p (show (44 : Nat) ≠ 45 by decide), up1_s]
                  by_cases hkk : k = mv.1 + (mv'.1 - mv.1) + i
                  · subst hkk
                    rw [upd_in, upd_in, upd_in]
                    simp only [mvRep, repF, repH, va_up, if_true, Bool.false_eq_true, if_false]
                    exact ⟨hr'.1, hr'.2.1, hr'.2.2.1, hr'.2.2.2.1, trivial⟩
                  · rw [upd_out hkk, upd_out hkk, upd_out hkk]
                    simp only [mvRep, repF, repH, va_up, if_neg hkk]
                    exact hr.2 k (by show k < mv.1 + (mv'.1 - mv.1) + i; omega)
            have k := loop ((mv'.1 - mv.1) * v - (mv'.1 - mv.1)) 0 A' (by omega) (by
              have : mvRep mv' mv.1 (mv'.1 - mv.1) 0 = mv' := by
                show (mv.1 + (mv'.1 - mv.1) + 0, mv'.2.1, mv'.2.2.1, mv'.2.2.2) = mv'
                rw [show mv.1 + (mv'.1 - mv.1) + 0 = mv'.1 by omega]
              rw [this]; exact hmv') hA
            exact k
          · rw [ep, nI_add, nI_len 8 (by omega) (by omega)] at c3
            rw [if_pos (by omega)] at E
            obtain ⟨hd, hΦ⟩ := err I2 A' 7 _ (by omega) (by omega) hqn1 g41 h40b gfr hA
            exact r_12_sayMove_308 F E (fun h => absurd h hd) (fun _ => hΦ)
    · rw [h38a, h39a] at c
      unfold tailF
      rw [if_pos (fun z => c ⟨h41, z⟩)]
      exact ⟨rfl, rfl, I', A', rfl, hfr, hA, h41, h42, hq, h47', hmv'⟩
  let fin : Except (Nat × Nat) (Nat × MV) → Except (Nat × Nat) (Nat × MV) := fun x => match x with | .error e => .error e | .ok r => tailF (A 34) n mv.1 r.1 r.2
  have steps : ∀ (f a q : Nat) (mv' : MV) (I' A' : Nat → Nat → Int32) (x3 : Int32), ¬ x3 = 0 → n + 1 - q ≤ f → 0 < f → a ≤ 25 → mv.1 ≤ mv'.1 → I' 0 41 = 0 → I' 0 42 = I 0 42 → AtP I' (A 34) n q → I' 0 47 = nI mv'.1 → mvRow A' mv' → FrM I I' → (∀ q, q ≠ 44 → q ≠ 45 → q ≠ 46 → A' q = A q) → Ex X none 0 0 (sayQ I A J n (fin (stepsF (A 34) n f a mv' q))) → WA X (mS I' A' J) plM 0 0 69 [(0, .ref 0), (1, .int (nI a)), (2, .int (nI mv.1)), (3, .int x3)] [] := by
    intro f
    induction f with
    | zero => intro a q mv' I' A' x3 _ _ h; omega
    | succ f ih =>
      intro a q mv' I' A' x3 hx3 hf _ ha hle h41 h42 hq h47' hmv' hfr hA E
      have h8 := hmv'.1
      obtain ⟨hn, hqn, h36a, h37a, h38a, h39a, h40a⟩ := id hq
      refine r_12_sayMove_69 F (fun h => absurd h hx3) (fun _ _ _ h4 => hq.ok (tk_lt (by rw [← h38a, h4]; decide))) (fun _ _ => ?_) (fun _ h => absurd h41 h)
      unfold stepsF at E
      by_cases c1 : ¬ (tkS (A 34) n q = 4 ∧ tkV (A 34) n q = 47)
      · rw [if_pos c1] at E
        obtain ⟨hd, hΦ⟩ := err I' A' 1 _ (by omega) (by omega) hqn h41 h40a hfr hA
        rw [need_f (by rw [h38a, h39a]; exact c1)]
        exact d86 _ A' _ _ _ _ E hd hΦ
      rw [if_neg c1] at E
      have c1 := Classical.not_not.mp c1
      have hlt : q < n := tk_lt (by rw [c1.1]; decide)
      have hb1 := nxP_b (T := A 34) hlt
      rw [need_t h41 (by rw [h38a]; exact c1.1) (by rw [h39a]; exact c1.2), gon_A (A := A) (AF hA)]
      have g41 : gonI I' A 0 41 = 0 := by rw [gon_k (by decide)]; exact h41
      have g42 : gonI I' A 0 42 = I 0 42 := by rw [gon_k (by decide)]; exact h42
      have g47 : gonI I' A 0 47 = nI mv'.1 := by rw [gon_k (by decide)]; exact h47'
      have gAt := hq.go hlt
      have gfr := hfr.tr (FrM.of (gon_fr I' A))
      generalize gonI I' A = I2 at g41 g42 g47 gAt gfr ⊢
      obtain ⟨-, hqn1, h36b, h37b, h38b, h39b, h40b⟩ := id gAt
      -- a move is added: to b, the token behind it is due
      have add : ∀ (b : Nat) (x4 : Int32), b ≤ 24 → nxP (A 34) n q < n → mv'.1 ≠ 8 → (if x4 = 0 then I2 0 39 else 0) = nI b →
          Ex X none 0 0 (sayQ I A J n (fin (if tkS (A 34) n (nxP (A 34) n (nxP (A 34) n q)) = 4 ∧ tkV (A 34) n (nxP (A 34) n (nxP (A 34) n q)) = 42 then
            if tkS (A 34) n (nxP (A 34) n (nxP (A 34) n (nxP (A 34) n q))) = 4 ∧ tkV (A 34) n (nxP (A 34) n (nxP (A 34) n (nxP (A 34) n q))) = 47 then stepsF (A 34) n f b (mvAdd mv' a b true) (nxP (A 34) n (nxP (A 34) n (nxP (A 34) n q))) else .ok (nxP (A 34) n (nxP (A 34) n (nxP (A 34) n q)), mvAdd mv' a b true)
          else if tkS (A 34) n (nxP (A 34) n (nxP (A 34) n q)) = 4 ∧ tkV (A 34) n (nxP (A 34) n (nxP (A 34) n q)) = 47 then stepsF (A 34) n f b (mvAdd mv' a b false) (nxP (A 34) n (nxP (A 34) n q)) else .ok (nxP (A 34) n (nxP (A 34) n q), mvAdd mv' a b false)))) →
          WA X (mS I2 A' J) plM 0 0 155 [(0, .ref 0), (1, .int (nI a)), (2, .int (nI mv.1)), (3, .int x3), (4, .int x4)] [] := by
        intro b x4 hb hlt1 h8n ev E
        have hb2 := nxP_b (T := A 34) hlt1
        have in16 : vp_in (I2 0 47) 16 := by rw [g47]; exact vp_in_nI (by omega) (by omega)
        have ecl : (I2 0 47).toNatClampNeg = mv'.1 := by rw [g47]; exact nI_clamp (by omega)
        refine r_12_sayMove_155 F in16 in16 in16 (gAt.ok hlt1) ?_
        rw [ecl, ev, upd_in]
        have hA1 : ∀ q, q ≠ 44 → q ≠ 45 → q ≠ 46 → up1 (up1 A' 44 (upd (A' 44) mv'.1 (nI a))) 45 (upd (A' 45) mv'.1 (nI b)) q = A q := fun q h1 h2 h3 => by rw [up1_p h2, up1_p h1]; exact hA q h1 h2 h3
        have r44 : up1 (up1 A' 44 (upd (A' 44) mv'.1 (nI a))) 45 (upd (A' 45) mv'.1 (nI b)) 44 = upd (A' 44) mv'.1 (nI a) := by rw [up1_p (by decide), up1_s]
        have r45 : up1 (up1 A' 44 (upd (A' 44) mv'.1 (nI a))) 45 (upd (A' 45) mv'.1 (nI b)) 45 = upd (A' 45) mv'.1 (nI b) := up1_s
        have r46 : up1 (up1 A' 44 (upd (A' 44) mv'.1 (nI a))) 45 (upd (A' 45) mv'.1 (nI b)) 46 = A' 46 := by rw [up1_p (by decide), up1_p (by decide)]
        generalize up1 (up1 A' 44 (upd (A' 44) mv'.1 (nI a))) 45 (upd (A' 45) mv'.1 (nI b)) = A1 at hA1 r44 r45 r46 ⊢
        rw [gon_A (A := A) (AF hA1)]
        have k41 : gonI I2 A 0 41 = 0 := by rw [gon_k (by decide)]; exact g41
        have k42 : gonI I2 A 0 42 = I 0 42 := by rw [gon_k (by decide)]; exact g42
        have k47 : gonI I2 A 0 47 = nI mv'.1 := by rw [gon_k (by decide)]; exact g47
        have kAt := gAt.go hlt1
        have kfr := gfr.tr (FrM.of (gon_fr I2 A))
        generalize gonI I2 A = I3 at k41 k42 k47 kAt kfr ⊢
        obtain ⟨-, hqn2, h36c, h37c, h38c, h39c, h40c⟩ := id kAt
        -- behind the star
        have last : ∀ (q3 : Nat) (s : Bool) (I4 A2 : Nat → Nat → Int32), nxP (A 34) n q < q3 → I4 0 41 = 0 → I4 0 42 = I 0 42 → I4 0 47 = nI mv'.1 → AtP I4 (A 34) n q3 → FrM I I4 → (∀ q, q ≠ 44 → q ≠ 45 → q ≠ 46 → A2 q = A q) → mvRow A2 (mvAdd mv' a b s) → Ex X none 0 0 (sayQ I A J n (fin (if tkS (A 34) n q3 = 4 ∧ tkV (A 34) n q3 = 47 then stepsF (A 34) n f b (mvAdd mv' a b s) q3 else .ok (q3, mvAdd mv' a b s)))) → WA X (mS I4 A2 J) plM 0 0 229 [(0, .ref 0), (1, .int (nI b)), (2, .int (nI mv.1)), (3, .int x3), (4, .int x4)] [] := by
          intro q3 s I4 A2 hq3 l41 l42 l47 lAt lfr hA2 hr E
          obtain ⟨-, hqn3, h36d, h37d, h38d, h39d, h40d⟩ := id lAt
          have uAt : AtP (up2 I4 0 47 (nI (mv'.1 + 1))) (A 34) n q3 := ⟨hn, hqn3, h36d, h37d, h38d, h39d, h40d⟩
          have ufr : FrM I (up2 I4 0 47 (nI (mv'.1 + 1))) := lfr.tr (fun k _ h2 => up2_k h2)
          have u41 : up2 I4 0 47 (nI (mv'.1 + 1)) 0 41 = 0 := by rw [up2_k (by decide)]; exact l41
          have u42 : up2 I4 0 47 (nI (mv'.1 + 1)) 0 42 = I 0 42 := by rw [up2_k (by decide)]; exact l42
          refine r_12_sayMove_229 F (fun c => ?_) (fun c => ?_)
          · rw [h38d, h39d] at c
            rw [if_pos c.2] at E
            rw [l47, nI_1]
            exact ih b q3 _ _ A2 1 (by decide) (by omega) (by omega) (by omega) (by show mv.1 ≤ mv'.1 + 1; omega) u41 u42 uAt up2_s hr ufr hA2 E
          · rw [h38d, h39d] at c
            rw [if_neg (fun z => c ⟨l41, z⟩)] at E
            rw [l47, nI_1]
            refine r_12_sayMove_69 F (fun _ => ?_) (fun h => absurd rfl h) (fun h => absurd rfl h) (fun h => absurd rfl h)
            exact tail q3 _ _ A2 _ 0 (by show mv.1 < mv'.1 + 1; omega) u41 u42 uAt up2_s hr ufr hA2 E
        have in16 : vp_in (I3 0 47) 16 := by rw [k47]; exact vp_in_nI (by omega) (by omega)
        have ecl : (I3 0 47).toNatClampNeg = mv'.1 := by rw [k47]; exact nI_clamp (by omega)
        have rowA : ∀ s : Bool, mvRow (up1 A1 46 (upd (A1 46) mv'.1 (if s = true then 1 else 0))) (mvAdd mv' a b s) := fun s => mvRow_add hmv' (by omega) ha hb (by rw [up1_p (by decide)]; exact r44) (by rw [up1_p (by decide)]; exact r45) (by rw [up1_s, r46])
        have hA2 : ∀ s : Bool, ∀ q, q ≠ 44 → q ≠ 45 → q ≠ 46 → up1 A1 46 (upd (A1 46) mv'.1 (if s = true then 1 else 0)) q = A q := fun s q h1 h2 h3 => by rw [up1_p h3]; exact hA1 q h1 h2 h3
        refine r_12_sayMove_201 F (fun _ => in16) (fun c => kAt.ok (tk_lt (by rw [← h38c, c.2.1]; decide))) (fun c => ?_) (fun _ => in16) (fun c => ?_)
        · rw [h38c, h39c] at c
          rw [if_pos c.2] at E
          have hlt2 : nxP (A 34) n (nxP (A 34) n q) < n := tk_lt (by rw [c.2.1]; decide)
          have hb3 := nxP_b (T := A 34) hlt2
          rw [ecl, show vp_nar .boolean 1 = (if true = true then 1 else 0) by decide +kernel, gon_A (A := A) (AF (hA2 true))]
          exact last _ true _ _ (by omega) (by rw [gon_k (by decide)]; exact k41) (by rw [gon_k (by decide)]; exact k42) (by rw [gon_k (by decide)]; exact k47) (kAt.go hlt2) (kfr.tr (FrM.of (gon_fr _ _))) (hA2 true) (rowA true) E
        · rw [h38c, h39c] at c
          rw [if_neg (fun z => c ⟨k41, z⟩)] at E
          rw [ecl, show vp_nar .boolean 0 = (if false = true then 1 else 0) by decide +kernel]
          exact last _ false _ _ (by omega) k41 k42 k47 kAt kfr (hA2 false) (rowA false) E
      by_cases c2 : tkS (A 34) n (nxP (A 34) n q) = 3 ∧ tkV (A 34) n (nxP (A 34) n q) = 2
      · rw [if_pos c2] at E
        have hlt1 : nxP (A 34) n q < n := tk_lt (by rw [c2.1]; decide)
        refine r_12_sayMove_86 F (fun _ h => absurd (h38b.trans c2.1) h) (fun _ _ h => absurd (h39b.trans c2.2) h) (fun _ _ _ => ?_) (fun h => absurd g41 h)
        refine r_12_sayMove_116 F (fun _ => ?_) (fun h => absurd h (by decide))
        refine r_12_sayMove_128 F (fun c3 => ?_) (fun c3 => ?_)
        · have h8n : mv'.1 ≠ 8 := fun e => c3 (by rw [g47, e]; rfl)
          rw [if_neg h8n] at E
          exact r_12_sayMove_147 F E (fun _ => add 0 1 (by omega) hlt1 h8n rfl E) (fun h => absurd g41 h)
        · have h8n : mv'.1 = 8 := by rw [g47] at c3; exact (nI_eqn 8 (by omega) (by omega)).mp c3
          rw [if_pos h8n] at E
          obtain ⟨hd, hΦ⟩ := err I2 A' 7 _ (by omega) (by omega) hqn1 g41 h40b gfr hA
          exact d147 _ A' _ _ _ _ _ E hd hΦ
      · rw [if_neg c2] at E
        have k116 : WA X (mS I2 A' J) plM 0 0 116 [(0, .ref 0), (1, .int (nI a)), (2, .int (nI mv.1)), (3, .int x3), (4, .int 0)] [] := by
          refine r_12_sayMove_116 F (fun h => absurd rfl h) (fun _ => ?_)
          by_cases c3 : ¬ tkS (A 34) n (nxP (A 34) n q) = 2
          · rw [if_pos c3] at E
            obtain ⟨hd, hΦ⟩ := err I2 A' 1 _ (by omega) (by omega) hqn1 g41 h40b gfr hA
            rw [num_1 g41 (by rw [h38b]; exact c3)]
            exact d128 _ A' _ _ _ _ _ E hd hΦ
          · rw [if_neg c3] at E
            have c3 := Classical.not_not.mp c3
            have hlt1 : nxP (A 34) n q < n := tk_lt (by rw [c3]; decide)
            by_cases c4 : tkV (A 34) n (nxP (A 34) n q) < 1 ∨ 24 < tkV (A 34) n (nxP (A 34) n q)
            · rw [if_pos c4] at E
              obtain ⟨hd, hΦ⟩ := err I2 A' 2 _ (by omega) (by omega) hqn1 g41 h40b gfr hA
              rw [num_2 g41 (by rw [h38b]; exact c3) (by rw [h39b]; exact c4)]
              exact d128 _ A' _ _ _ _ _ E hd hΦ
            · rw [if_neg c4] at E
              rw [num_t g41 (by rw [h38b]; exact c3) (by rw [h39b]; exact c4)]
              obtain ⟨v, hv, ev⟩ := nI_of2 (x := tkV (A 34) n (nxP (A 34) n q)) (M := 24) (n := 24) rfl (by grind) (by grind)
              have eN : tkN (A 34) n (nxP (A 34) n q) = v := by unfold tkN; rw [ev]; exact nI_clamp (by omega)
              rw [eN] at E
              refine r_12_sayMove_128 F (fun c5 => ?_) (fun c5 => ?_)
              · have h8n : mv'.1 ≠ 8 := fun e => c5 (by rw [g47, e]; rfl)
                rw [if_neg h8n] at E
                exact r_12_sayMove_147 F E (fun _ => add v 0 hv hlt1 h8n (by rw [if_pos rfl, h39b, ev]) E) (fun h => absurd g41 h)
              · have h8n : mv'.1 = 8 := by rw [g47] at c5; exact (nI_eqn 8 (by omega) (by omega)).mp c5
                rw [if_pos h8n] at E
                obtain ⟨hd, hΦ⟩ := err I2 A' 7 _ (by omega) (by omega) hqn1 g41 h40b gfr hA
                exact d147 _ A' _ _ _ _ _ E hd hΦ
        exact r_12_sayMove_86 F (fun _ _ => k116) (fun _ _ _ => k116) (fun _ h3 h4 => absurd ⟨h38b.symm.trans h3, h39b.symm.trans h4⟩ c2) (fun h => absurd g41 h)
  have h8 := hmv.1
  obtain ⟨hn, hpn, h36a, h37a, h38a, h39a, h40a⟩ := id hp
  have go69 : ∀ a : Nat, a ≤ 25 → p < n → Ex X none 0 0 (sayQ I A J n (fin (stepsF (A 34) n (n + 1) a mv (nxP (A 34) n p)))) → WA X (mS (gonI I A) A J) plM 0 0 69 [(0, .ref 0), (1, .int (nI a)), (2, .int (gonI I A 0 47)), (3, .int 1)] [] := by
    intro a ha hlt E
    have g47 : gonI I A 0 47 = nI mv.1 := by rw [gon_k (by decide)]; exact h47
    rw [g47]
    exact steps (n + 1) a _ mv _ A 1 (by decide) (by omega) (by omega) ha (Nat.le_refl _) (by rw [gon_k (by decide)]; exact h0) (by rw [gon_k (by decide)]) (hp.go hlt) g47 hmv (FrM.of (gon_fr I A)) (fun _ _ _ _ => rfl) E
  unfold moveF at E
  by_cases c1 : tkS (A 34) n p = 3 ∧ tkV (A 34) n p = 1
  · rw [if_pos c1] at E
    have hlt : p < n := tk_lt (by rw [c1.1]; decide)
    refine r_12_sayMove_0 F (fun h => absurd (h38a.trans c1.1) h) (fun _ h => absurd (h39a.trans c1.2) h) (fun _ _ => ?_)
    exact r_12_sayMove_34 F E (fun _ h => absurd rfl h) (fun _ h => absurd rfl h) (fun _ _ => hp.ok hlt) (fun _ _ => go69 25 (by omega) hlt E) (fun h => absurd h0 h)
  · rw [if_neg c1] at E
    have k34 : WA X (mS (numI I 1 24) A J) plM 0 0 34 [(0, .ref 0), (1, .int 0)] [] := by
      by_cases c2 : ¬ tkS (A 34) n p = 2
      · rw [if_pos c2] at E
        obtain ⟨hd, hΦ⟩ := err I A 1 _ (by omega) (by omega) hpn h0 h40a (FrM.of (Fr.rf I)) (fun _ _ _ _ => rfl)
        rw [num_1 h0 (by rw [h38a]; exact c2)]
        exact r_12_sayMove_34 F E (fun h => absurd h hd) (fun h => absurd h hd) (fun h => absurd h hd) (fun h => absurd h hd) (fun _ => hΦ)
      · rw [if_neg c2] at E
        have c2 := Classical.not_not.mp c2
        have hlt : p < n := tk_lt (by rw [c2]; decide)
        by_cases c3 : tkV (A 34) n p < 1 ∨ 24 < tkV (A 34) n p
        · rw [if_pos c3] at E
          obtain ⟨hd, hΦ⟩ := err I A 2 _ (by omega) (by omega) hpn h0 h40a (FrM.of (Fr.rf I)) (fun _ _ _ _ => rfl)
          rw [num_2 h0 (by rw [h38a]; exact c2) (by rw [h39a]; exact c3)]
          exact r_12_sayMove_34 F E (fun h => absurd h hd) (fun h => absurd h hd) (fun h => absurd h hd) (fun h => absurd h hd) (fun _ => hΦ)
        · rw [if_neg c3] at E
          rw [num_t h0 (by rw [h38a]; exact c2) (by rw [h39a]; exact c3)]
          obtain ⟨v, hv, ev⟩ := nI_of2 (x := tkV (A 34) n p) (M := 24) (n := 24) rfl (by grind) (by grind)
          have eN : tkN (A 34) n p = v := by unfold tkN; rw [ev]; exact nI_clamp (by omega)
          rw [eN] at E
          refine r_12_sayMove_34 F E (fun _ _ => hp.ok hlt) (fun _ _ => ?_) (fun _ h => absurd h (by decide)) (fun _ h => absurd h (by decide)) (fun h => absurd h0 h)
          rw [h39a, ev]
          exact go69 v (by omega) hlt E
    exact r_12_sayMove_0 F (fun _ => k34) (fun _ _ => k34) (fun h3 h4 => absurd ⟨h38a.symm.trans h3, h39a.symm.trans h4⟩ c1)
