def sumR (rd : Nat → Nat) (o : Nat) : Nat → Nat
  | 0 => 0
  | i + 1 => sumR rd o i + rd (o + (i + 1))
/-- the text of a position: a FAULT and its place, or whose turn and the men read -/
def posF (T : Nat → Int32) (n : Nat) : Except (Nat × Nat) (Nat × (Nat → Nat)) :=
  match stkT T n 0 (fun _ => 0) (endT bBl T n 0) with
  | .error e => .error e
  | .ok r1 =>
    if ¬ (tkS T n r1.1 = 4 ∧ tkV T n r1.1 = 59) then .error (1, r1.1) else
    match stkT T n 1 r1.2 (nxP T n r1.1) with
    | .error e => .error e
    | .ok r2 =>
      if ¬ (tkS T n r2.1 = 4 ∧ tkV T n r2.1 = 59) then .error (1, r2.1)
      else if ¬ tkS T n (nxP T n r2.1) = 2 then .error (1, nxP T n r2.1)
      else if tkV T n (nxP T n r2.1) < 0 ∨ 1 < tkV T n (nxP T n r2.1) then .error (2, nxP T n r2.1)
      else if sumR r2.2 0 25 = 0 ∧ sumR r2.2 26 25 = 0 then .error (6, nxP T n r2.1)
      else if ¬ tkS T n (nxP T n (nxP T n r2.1)) = 0 then .error (1, nxP T n (nxP T n r2.1))
      else .ok (tkN T n (nxP T n r2.1), r2.2)
def begI (I A : Nat → Nat → Int32) (m : Int32) : Nat → Nat → Int32 := gonI (up2 (up2 (up2 (up2 (up2 (up2 I 0 0 0) 0 36 m) 0 35 0) 0 37 0) 0 41 0) 0 42 (-1)) A
def posB (rd : Nat → Nat) (k : Nat) : Int32 := if k = 0 then 15 - nI (sumR rd 0 25) else if k = 26 then 15 - nI (sumR rd 26 25) else nI (rd k)
/-- behind position(): I0 is the state behind beginText() -/
def posQ (I0 A : Nat → Nat → Int32) (J : Nat → Nat → Int64) (p n : Nat) (res : Except (Nat × Nat) (Nat × (Nat → Nat))) : Option Value → HS → List Nat → Prop := fun r σ' pl' => pl' = plM ∧ ∃ I' A', σ' = mS I' A' J ∧
  match res with
  | .error fp => fp.1 ≠ 0 ∧ fp.1 < 10 ∧ fp.2 ≤ n ∧ r = some (.int (nI fp.1)) ∧ Fr I0 I' ∧ I' 0 42 = nI fp.2 ∧ ∀ q, q ≠ 43 → A' q = A q
  | .ok wr => wr.1 ≤ 1 ∧ r = some (.int 0) ∧ I' 0 2 = nI wr.1 ∧ I' 0 16 = 0 ∧ I' 0 19 = nI (remP p + 1) ∧ I' 0 42 = I0 0 42 ∧ (∀ k, k ≠ 2 → k ≠ 16 → k ≠ 19 → k < 37 ∨ 42 < k → I' 0 k = I0 0 k) ∧ (∀ k, k < 52 → A' 1 k = posB wr.2 k) ∧ A' 18 = remRow (A 18) p (A 1) (I0 0 2) ∧ ∀ q, q ≠ 1 → q ≠ 18 → q ≠ 43 → A' q = A q
set_option maxRecDepth 10000 in
theorem c_stacksD (l : Launch) (I A : Nat → Nat → Int32) (J : Nat → Nat → Int64) (a : Int32) (h : ¬ I 0 41 = 0) : Con l 4 yX12_stacks cX12_stacks 5 none [.ref 0, .int a] (mS I A J) plM 0 0 (PM none I A J) := by
  refine Con.of (by decide) (Nat.le_of_ble_eq_true rfl) (fun X hX9 hn9 F E => ?_)
  exact r_12_stacks_0 F E (fun h1 => absurd h1 h) (fun h1 => absurd h1 h) (fun _ => ⟨rfl, rfl, rfl⟩)

theorem r_12_position_0 {X : Ctx} (F : Fx X cX12_position RX12 6 5 0 0) {Φ : Option Value → HS → List Nat → Prop} (E : Ex X (some .int) 0 0 Φ) {I A : Nat → Nat → Int32} {J : Nat → Nat → Int64} {x1 : Int32}
    (e_1 : (x1 < 0) → Φ (some (.int 0)) (mS (up2 (up2 I 0 0 0) 0 0 (1 : Int32)) A J) plM)
    (e_2 : (¬ (x1 < 0)) → ((I 0 35) < x1) → Φ (some (.int 0)) (mS (up2 (up2 I 0 0 0) 0 0 (1 : Int32)) A J) plM)
    (e_3 : (¬ (x1 < 0)) → (¬ ((I 0 35) < x1)) → (0 < (I 0 20) ∧ (I 0 20) < 6) → Φ (some (.int 0)) (mS (up2 (up2 I 0 0 0) 0 0 (2 : Int32)) A J) plM)
    (o_4 : (¬ (x1 < 0)) → (¬ ((I 0 35) < x1)) → (¬ (0 < (I 0 20) ∧ (I 0 20) < 6)) → 0 ≤ x1 ∧ x1 ≤ 400)
    (e_5 : (¬ (x1 < 0)) → (¬ ((I 0 35) < x1)) → (¬ (0 < (I 0 20) ∧ (I 0 20) < 6)) → WA X (mS (gonI (up2 (up2 (up2 (up2 (up2 (up2 I 0 0 0) 0 36 x1) 0 35 0) 0 37 0) 0 41 0) 0 42 (-1)) A) A J) plM 0 0 59 [(0, .ref 0), (1, .int x1), (2, .int 0)] []) :
    WA X (mS I A J) plM 0 0 0 [(0, .ref 0), (1, .int x1)] [] := by
  refine a_aload_n F 0 dX12_position_0 rfl rfl ?_
  refine a_iconst (v := 0) F dX12_position_1 (by decide) ?_
  refine a_puti F fl_12_1 rfl rfl rfl rfl (by decide) rfl dX12_position_2 ?_
  refine a_aload_n F 0 dX12_position_5 rfl rfl ?_
  refine a_iload_n F 1 dX12_position_6 rfl rfl ?_
  refine a_if_lt (tgt := 22) F dX12_position_7 (by decide) (fun (c_1 : x1 < 0) => ?_) (fun (c_1 : ¬ (x1 < 0)) => ?_)
  · refine a_iconst (v := 0) F dX12_position_22 (by decide) ?_
    refine a_iconst (v := 1) F dX12_position_23 (by decide) ?_
    refine a_callV (b := 0) (As := [.int 0, .int 1]) (st := []) (ci := 12) F (c_may0 (xl X) (up2 I 0 0 0) A J (1 : Int32) (by decide) rfl) ml_12_155 im_yX12_may se_yX12_may (by decide) (by decide) rfl (by decide) rfl rfl dX12_position_24 (by decide) (Nat.le_refl 0) (Nat.le_refl 0) (hl_r (by decide) (hl_i hl_nil)) hs_nil ?_
    rintro _ _ _ ⟨rfl, rfl, rfl⟩ _
    show WA X (mS (up2 (up2 I 0 0 0) 0 0 (1 : Int32)) A J) plM 0 0 27 [(0, .ref 0), (1, .int x1)] [.int 0]
    refine a_if_eq (tgt := 50) F dX12_position_27 (by decide) (fun (c_2 : (0 : Int32) = 0) => ?_) (fun (c_2 : ¬ ((0 : Int32) = 0)) => ?_)
    · refine a_iconst (v := 0) F dX12_position_50 (by decide) ?_
      exact a_iret F E dX12_position_51 (Nat.le_refl 0) (Nat.le_refl 0) (e_1 c_1)
    · exact absurd c_2 (by decide)
  · refine a_iload_n F 1 dX12_position_10 rfl rfl ?_
    refine a_aload_n F 0 dX12_position_11 rfl rfl ?_
    refine a_geti F fl_12_167 rfl (by decide) rfl dX12_position_12 ?_
    refine a_icmp_gt (tgt := 22) F dX12_position_15 (by decide) (fun (c_3 : (I 0 35) < x1) => ?_) (fun (c_3 : ¬ ((I 0 35) < x1)) => ?_)
    · refine a_iconst (v := 0) F dX12_position_22 (by decide) ?_
      refine a_iconst (v := 1) F dX12_position_23 (by decide) ?_
      refine a_callV (b := 0) (As := [.int 0, .int 1]) (st := []) (ci := 12) F (c_may0 (xl X) (up2 I 0 0 0) A J (1 : Int32) (by decide) rfl) ml_12_155 im_yX12_may se_yX12_may (by decide) (by decide) rfl (by decide) rfl rfl dX12_position_24 (by decide) (Nat.le_refl 0) (Nat.le_refl 0) (hl_r (by decide) (hl_i hl_nil)) hs_nil ?_
      rintro _ _ _ ⟨rfl, rfl, rfl⟩ _
      show WA X (mS (up2 (up2 I 0 0 0) 0 0 (1 : Int32)) A J) plM 0 0 27 [(0, .ref 0), (1, .int x1)] [.int 0]
      refine a_if_eq (tgt := 50) F dX12_position_27 (by decide) (fun (c_4 : (0 : Int32) = 0) => ?_) (fun (c_4 : ¬ ((0 : Int32) = 0)) => ?_)
      · refine a_iconst (v := 0) F dX12_position_50 (by decide) ?_
        exact a_iret F E dX12_position_51 (Nat.le_refl 0) (Nat.le_refl 0) (e_2 c_1 c_3)
      · exact absurd c_4 (by decide)
    · refine a_iconst (v := 1) F dX12_position_18 (by decide) ?_
      refine a_goto (tgt := 23) F dX12_position_19 (by decide) ?_
      refine a_iconst (v := 1) F dX12_position_23 (by decide) ?_
      refine a_callV (b := 0) (As := [.int 1, .int 1]) (st := []) (ci := 12) F (c_may1 (xl X) (up2 I 0 0 0) A J (1 : Int32) (by decide) rfl) ml_12_155 im_yX12_may se_yX12_may (by decide) (by decide) rfl (by decide) rfl rfl dX12_position_24 (by decide) (Nat.le_refl 0) (Nat.le_refl 0) (hl_r (by decide) (hl_i hl_nil)) hs_nil ?_
      rintro _ _ _ ⟨rfl, rfl, rfl⟩ _
      show WA X (mS (up2 I 0 0 0) A J) plM 0 0 27 [(0, .ref 0), (1, .int x1)] [.int 1]
      refine a_if_eq (tgt := 50) F dX12_position_27 (by decide) (fun (c_5 : (1 : Int32) = 0) => ?_) (fun (c_5 : ¬ ((1 : Int32) = 0)) => ?_)
      · exact absurd c_5 (by decide)
      · refine a_aload_n F 0 dX12_position_30 rfl rfl ?_
        refine a_aload_n F 0 dX12_position_31 rfl rfl ?_
        refine a_callV (b := 0) (As := []) (st := [.ref 0]) (ci := 12) F (c_isMatch (xl X) (up2 I 0 0 0) A J ) ml_12_252 im_yX12_isMatch se_yX12_isMatch (by decide) (by decide) rfl (by decide) rfl rfl dX12_position_32 (Nat.le_of_ble_eq_true rfl) (Nat.le_refl 0) (Nat.le_refl 0) (hl_r (by decide) (hl_i hl_nil)) (hs_r (by decide) hs_nil) ?_
        rintro _ _ _ ⟨rfl, rfl, rfl⟩ _
        show WA X (mS (up2 I 0 0 0) A J) plM 0 0 35 [(0, .ref 0), (1, .int x1)] [.int (if 0 < (I 0 20) ∧ (I 0 20) < 6 then 1 else 0), .ref 0]
        refine a_ite (fun (c_6 : 0 < (I 0 20) ∧ (I 0 20) < 6) => ?_) (fun (c_6 : ¬ (0 < (I 0 20) ∧ (I 0 20) < 6)) => ?_)
        · refine a_if_ne (tgt := 42) F dX12_position_35 (by decide) (fun (c_7 : ¬ (1 : Int32) = 0) => ?_) (fun (c_7 : (1 : Int32) = 0) => ?_)
          · refine a_iconst (v := 0) F dX12_position_42 (by decide) ?_
            refine a_iconst (v := 2) F dX12_position_43 (by decide) ?_
            refine a_callV (b := 0) (As := [.int 0, .int 2]) (st := []) (ci := 12) F (c_may0 (xl X) (up2 I 0 0 0) A J (2 : Int32) (by decide) rfl) ml_12_155 im_yX12_may se_yX12_may (by decide) (by decide) rfl (by decide) rfl rfl dX12_position_44 (by decide) (Nat.le_refl 0) (Nat.le_refl 0) (hl_r (by decide) (hl_i hl_nil)) hs_nil ?_
            rintro _ _ _ ⟨rfl, rfl, rfl⟩ _
            show WA X (mS (up2 (up2 I 0 0 0) 0 0 (2 : Int32)) A J) plM 0 0 47 [(0, .ref 0), (1, .int x1)] [.int 0]
            refine a_if_ne (tgt := 52) F dX12_position_47 (by decide) (fun (c_8 : ¬ (0 : Int32) = 0) => ?_) (fun (c_8 : (0 : Int32) = 0) => ?_)
            · exact absurd c_8 (by decide)
            · refine a_iconst (v := 0) F dX12_position_50 (by decide) ?_
              exact a_iret F E dX12_position_51 (Nat.le_refl 0) (Nat.le_refl 0) (e_3 c_1 c_3 c_6)
          · exact absurd c_7 (by decide)
        · refine a_if_ne (tgt := 42) F dX12_position_35 (by decide) (fun (c_9 : ¬ (0 : Int32) = 0) => ?_) (fun (c_9 : (0 : Int32) = 0) => ?_)
          · exact absurd c_9 (by decide)
          · refine a_iconst (v := 1) F dX12_position_38 (by decide) ?_
            refine a_goto (tgt := 43) F dX12_position_39 (by decide) ?_
            refine a_iconst (v := 2) F dX12_position_43 (by decide) ?_
            refine a_callV (b := 0) (As := [.int 1, .int 2]) (st := []) (ci := 12) F (c_may1 (xl X) (up2 I 0 0 0) A J (2 : Int32) (by decide) rfl) ml_12_155 im_yX12_may se_yX12_may (by decide) (by decide) rfl (by decide) rfl rfl dX12_position_44 (by decide) (Nat.le_refl 0) (Nat.le_refl 0) (hl_r (by decide) (hl_i hl_nil)) hs_nil ?_
            rintro _ _ _ ⟨rfl, rfl, rfl⟩ _
            show WA X (mS (up2 I 0 0 0) A J) plM 0 0 47 [(0, .ref 0), (1, .int x1)] [.int 1]
            refine a_if_ne (tgt := 52) F dX12_position_47 (by decide) (fun (c_10 : ¬ (1 : Int32) = 0) => ?_) (fun (c_10 : (1 : Int32) = 0) => ?_)
            · refine a_aload_n F 0 dX12_position_52 rfl rfl ?_
              refine a_iload_n F 1 dX12_position_53 rfl rfl ?_
              refine a_callV (b := 0) (As := [.int x1]) (st := []) (ci := 12) F (c_beginText (xl X) (up2 I 0 0 0) A J x1 (o_4 c_1 c_3 c_6)) ml_12_322 im_yX12_beginText se_yX12_beginText (by decide) (by decide) rfl (by decide) rfl rfl dX12_position_54 (by decide) (Nat.le_refl 0) (Nat.le_refl 0) (hl_r (by decide) (hl_i hl_nil)) hs_nil ?_
              rintro _ _ _ ⟨rfl, rfl, rfl⟩ _
              show WA X (mS (gonI (up2 (up2 (up2 (up2 (up2 (up2 I 0 0 0) 0 36 x1) 0 35 0) 0 37 0) 0 41 0) 0 42 (-1)) A) A J) plM 0 0 57 [(0, .ref 0), (1, .int x1)] []
              refine a_iconst (v := 0) F dX12_position_57 (by decide) ?_
              refine a_istore_n F dX12_position_58 rfl (by decide) rfl ?_
              refine a_sub [1, 2, 0] rfl ?_
              exact e_5 c_1 c_3 c_6
            · exact absurd c_10 (by decide)

theorem r_12_position_59 {X : Ctx} (F : Fx X cX12_position RX12 6 5 0 0) {I A : Nat → Nat → Int32} {J : Nat → Nat → Int64} {x1 x2 : Int32}
    (e_1 : (52 ≤ x2) → WA X (mS I A J) plM 0 0 80 [(0, .ref 0), (1, .int x1), (2, .int x2)] [.int 0, .ref 0])
    (o_2 : (¬ (52 ≤ x2)) → vp_in x2 52)
    (e_3 : (¬ (52 ≤ x2)) → WA X (mS I (up1 A 43 (upd (A 43) x2.toNatClampNeg 0)) J) plM 0 0 59 [(0, .ref 0), (1, .int x1), (2, .int (x2 + 1))] []) :
    WA X (mS I A J) plM 0 0 59 [(0, .ref 0), (1, .int x1), (2, .int x2)] [] := by
  refine a_iload_n F 2 dX12_position_59 rfl rfl ?_
  refine a_bipush (v := 52) F dX12_position_60 (by decide) ?_
  refine a_icmp_ge (tgt := 78) F dX12_position_62 (by decide) (fun (c_11 : 52 ≤ x2) => ?_) (fun (c_11 : ¬ (52 ≤ x2)) => ?_)
  · refine a_aload_n F 0 dX12_position_78 rfl rfl ?_
    refine a_iconst (v := 0) F dX12_position_79 (by decide) ?_
    exact e_1 c_11
  · refine a_aload_n F 0 dX12_position_65 rfl rfl ?_
    refine a_getr (b := 43) F fl_12_63 rfl (by decide) rfl rfl dX12_position_66 ?_
    refine a_iload_n F 2 dX12_position_69 rfl rfl ?_
    refine a_iconst (v := 0) F dX12_position_70 (by decide) ?_
    refine a_iast F (by decide) rfl (o_2 c_11) dX12_position_71 ?_
    refine a_iinc (v := x2 + 1) F 2 dX12_position_72 rfl rfl (by decide) rfl ?_
    refine a_goto (tgt := 59) F dX12_position_75 (by decide) ?_
    refine a_sub [1, 2, 0] rfl ?_
    exact e_3 c_11

theorem r_12_position_83 {X : Ctx} (F : Fx X cX12_position RX12 6 5 0 0) {I A : Nat → Nat → Int32} {J : Nat → Nat → Int64} {x1 x2 : Int32}
    (o_1 : (I 0 41) = 0 → (I 0 38) = 4 → okT I)
    (e_2 : WA X (mS (needI I A (59 : Int32)) A J) plM 0 0 91 [(0, .ref 0), (1, .int x1), (2, .int x2)] [.int 1, .ref 0]) :
    WA X (mS I A J) plM 0 0 83 [(0, .ref 0), (1, .int x1), (2, .int x2)] [] := by
  refine a_aload_n F 0 dX12_position_83 rfl rfl ?_
  refine a_bipush (v := 59) F dX12_position_84 (by decide) ?_
  refine a_callV (b := 0) (As := [.int 59]) (st := []) (ci := 12) F (c_need (xl X) I A J 59 (o_1)) ml_12_328 im_yX12_need se_yX12_need (by decide) (by decide) rfl (by decide) rfl rfl dX12_position_86 (by decide) (Nat.le_refl 0) (Nat.le_refl 0) (hl_r (by decide) (hl_i (hl_i hl_nil))) hs_nil ?_
  rintro _ _ _ ⟨rfl, rfl, rfl⟩ _
  show WA X (mS (needI I A (59 : Int32)) A J) plM 0 0 89 [(0, .ref 0), (1, .int x1), (2, .int x2)] []
  refine a_aload_n F 0 dX12_position_89 rfl rfl ?_
  refine a_iconst (v := 1) F dX12_position_90 (by decide) ?_
  exact e_2

theorem r_12_position_94 {X : Ctx} (F : Fx X cX12_position RX12 6 5 0 0) {I A : Nat → Nat → Int32} {J : Nat → Nat → Int64} {x1 x2 : Int32}
    (o_1 : (I 0 41) = 0 → (I 0 38) = 4 → okT I)
    (e_2 : WA X (mS (numI (needI I A (59 : Int32)) (0 : Int32) (1 : Int32)) A J) plM 0 0 119 [(0, .ref 0), (1, .int x1), (2, .int ((numI (needI I A (59 : Int32)) (0 : Int32) (1 : Int32)) 0 39)), (3, .int 0), (4, .int 0), (5, .int 1)] []) :
    WA X (mS I A J) plM 0 0 94 [(0, .ref 0), (1, .int x1), (2, .int x2)] [] := by
  refine a_aload_n F 0 dX12_position_94 rfl rfl ?_
  refine a_bipush (v := 59) F dX12_position_95 (by decide) ?_
  refine a_callV (b := 0) (As := [.int 59]) (st := []) (ci := 12) F (c_need (xl X) I A J 59 (o_1)) ml_12_328 im_yX12_need se_yX12_need (by decide) (by decide) rfl (by decide) rfl rfl dX12_position_97 (by decide) (Nat.le_refl 0) (Nat.le_refl 0) (hl_r (by decide) (hl_i (hl_i hl_nil))) hs_nil ?_
  rintro _ _ _ ⟨rfl, rfl, rfl⟩ _
  show WA X (mS (needI I A (59 : Int32)) A J) plM 0 0 100 [(0, .ref 0), (1, .int x1), (2, .int x2)] []
  refine a_aload_n F 0 dX12_position_100 rfl rfl ?_
  refine a_iconst (v := 0) F dX12_position_101 (by decide) ?_
  refine a_iconst (v := 1) F dX12_position_102 (by decide) ?_
  refine a_callV (b := 0) (As := [.int 0, .int 1]) (st := []) (ci := 12) F (c_isNumber (xl X) (needI I A (59 : Int32)) A J 0 1) ml_12_331 im_yX12_isNumber se_yX12_isNumber (by decide) (by decide) rfl (by decide) rfl rfl dX12_position_103 (by decide) (Nat.le_refl 0) (Nat.le_refl 0) (hl_r (by decide) (hl_i (hl_i hl_nil))) hs_nil ?_
  rintro _ _ _ ⟨rfl, rfl, rfl⟩ _
  show WA X (mS (numI (needI I A (59 : Int32)) (0 : Int32) (1 : Int32)) A J) plM 0 0 106 [(0, .ref 0), (1, .int x1), (2, .int x2)] []
  refine a_aload_n F 0 dX12_position_106 rfl rfl ?_
  refine a_geti F fl_12_296 rfl (by decide) rfl dX12_position_107 ?_
  refine a_istore_n F dX12_position_110 rfl (by decide) rfl ?_
  refine a_iconst (v := 0) F dX12_position_111 (by decide) ?_
  refine a_istore_n F dX12_position_112 rfl (by decide) rfl ?_
  refine a_iconst (v := 0) F dX12_position_113 (by decide) ?_
  refine a_istore F dX12_position_114 (by decide) rfl ?_
  refine a_iconst (v := 1) F dX12_position_116 (by decide) ?_
  refine a_istore F dX12_position_117 (by decide) rfl ?_
  refine a_sub [4, 5, 3, 2, 1, 0] rfl ?_
  exact e_2

theorem r_12_position_119 {X : Ctx} (F : Fx X cX12_position RX12 6 5 0 0) {I A : Nat → Nat → Int32} {J : Nat → Nat → Int64} {x1 x2 x3 x4 x5 : Int32}
    (e_1 : (26 ≤ x5) → WA X (mS I A J) plM 0 0 157 [(0, .ref 0), (1, .int x1), (2, .int x2), (3, .int x3), (4, .int x4), (5, .int x5)] [])
    (o_2 : (¬ (26 ≤ x5)) → vp_in x5 52)
    (o_3 : (¬ (26 ≤ x5)) → vp_in (26 + x5) 52)
    (e_4 : (¬ (26 ≤ x5)) → WA X (mS I A J) plM 0 0 119 [(0, .ref 0), (1, .int x1), (2, .int x2), (3, .int (x3 + (A 43 x5.toNatClampNeg))), (4, .int (x4 + (A 43 (26 + x5).toNatClampNeg))), (5, .int (x5 + 1))] []) :
    WA X (mS I A J) plM 0 0 119 [(0, .ref 0), (1, .int x1), (2, .int x2), (3, .int x3), (4, .int x4), (5, .int x5)] [] := by
  refine a_iload F 5 dX12_position_119 rfl ?_
  refine a_bipush (v := 26) F dX12_position_121 (by decide) ?_
  refine a_icmp_ge (tgt := 157) F dX12_position_123 (by decide) (fun (c_12 : 26 ≤ x5) => ?_) (fun (c_12 : ¬ (26 ≤ x5)) => ?_)
  · exact e_1 c_12
  · refine a_iload_n F 3 dX12_position_126 rfl rfl ?_
    refine a_aload_n F 0 dX12_position_127 rfl rfl ?_
    refine a_getr (b := 43) F fl_12_63 rfl (by decide) rfl rfl dX12_position_128 ?_
    refine a_iload F 5 dX12_position_131 rfl ?_
    refine a_iald F (by decide) rfl (o_2 c_12) dX12_position_133 ?_
    refine a_iadd F dX12_position_134 ?_
    refine a_istore_n F dX12_position_135 rfl (by decide) rfl ?_
    refine a_iload F 4 dX12_position_136 rfl ?_
    refine a_aload_n F 1 dX12_position_138 rfl rfl ?_
    refine a_getr (b := 43) F fl_12_63 rfl (by decide) rfl rfl dX12_position_139 ?_
    refine a_bipush (v := 26) F dX12_position_142 (by decide) ?_
    refine a_iload F 5 dX12_position_144 rfl ?_
    refine a_iadd F dX12_position_146 ?_
    refine a_iald F (by decide) rfl (o_3 c_12) dX12_position_147 ?_
    refine a_iadd F dX12_position_148 ?_
    refine a_istore F dX12_position_149 (by decide) rfl ?_
    refine a_iinc (v := x5 + 1) F 5 dX12_position_151 rfl rfl (by decide) rfl ?_
    refine a_goto (tgt := 119) F dX12_position_154 (by decide) ?_
    refine a_sub [3, 4, 5, 2, 1, 0] rfl ?_
    exact e_4 c_12

theorem r_12_position_157 {X : Ctx} (F : Fx X cX12_position RX12 6 5 0 0) {I A : Nat → Nat → Int32} {J : Nat → Nat → Int64} {x1 x2 x3 x4 x5 : Int32}
    (e_1 : ((I 0 41) = 0) → (¬ x3 = 0) → WA X (mS I A J) plM 0 0 183 [(0, .ref 0), (1, .int x1), (2, .int x2), (3, .int x3), (4, .int x4), (5, .int x5)] [])
    (e_2 : ((I 0 41) = 0) → (x3 = 0) → (¬ x4 = 0) → WA X (mS I A J) plM 0 0 183 [(0, .ref 0), (1, .int x1), (2, .int x2), (3, .int x3), (4, .int x4), (5, .int x5)] [])
    (e_3 : ((I 0 41) = 0) → (x3 = 0) → (x4 = 0) → WA X (mS (wrongI I (6 : Int32) (I 0 40)) A J) plM 0 0 183 [(0, .ref 0), (1, .int x1), (2, .int x2), (3, .int x3), (4, .int x4), (5, .int x5)] [])
    (e_4 : (¬ ((I 0 41) = 0)) → WA X (mS I A J) plM 0 0 183 [(0, .ref 0), (1, .int x1), (2, .int x2), (3, .int x3), (4, .int x4), (5, .int x5)] []) :
    WA X (mS I A J) plM 0 0 157 [(0, .ref 0), (1, .int x1), (2, .int x2), (3, .int x3), (4, .int x4), (5, .int x5)] [] := by
  refine a_aload_n F 0 dX12_position_157 rfl rfl ?_
  refine a_callV (b := 0) (As := []) (st := []) (ci := 12) F (c_fine (xl X) I A J ) ml_12_310 im_yX12_fine se_yX12_fine (by decide) (by decide) rfl (by decide) rfl rfl dX12_position_158 (by decide) (Nat.le_refl 0) (Nat.le_refl 0) (hl_r (by decide) (hl_i (hl_i (hl_i (hl_i (hl_i hl_nil)))))) hs_nil ?_
  rintro _ _ _ ⟨rfl, rfl, rfl⟩ _
  show WA X (mS I A J) plM 0 0 161 [(0, .ref 0), (1, .int x1), (2, .int x2), (3, .int x3), (4, .int x4), (5, .int x5)] [.int (if (I 0 41) = 0 then 1 else 0)]
  refine a_ite (fun (c_13 : (I 0 41) = 0) => ?_) (fun (c_13 : ¬ ((I 0 41) = 0)) => ?_)
  · refine a_if_eq (tgt := 183) F dX12_position_161 (by decide) (fun (c_14 : (1 : Int32) = 0) => ?_) (fun (c_14 : ¬ ((1 : Int32) = 0)) => ?_)
    · exact absurd c_14 (by decide)
    · refine a_iload_n F 3 dX12_position_164 rfl rfl ?_
      refine a_if_ne (tgt := 183) F dX12_position_165 (by decide) (fun (c_15 : ¬ x3 = 0) => ?_) (fun (c_15 : x3 = 0) => ?_)
      · exact e_1 c_13 c_15
      · refine a_iload F 4 dX12_position_168 rfl ?_
        refine a_if_ne (tgt := 183) F dX12_position_170 (by decide) (fun (c_16 : ¬ x4 = 0) => ?_) (fun (c_16 : x4 = 0) => ?_)
        · exact e_2 c_13 c_15 c_16
        · refine a_aload_n F 0 dX12_position_173 rfl rfl ?_
          refine a_bipush (v := 6) F dX12_position_174 (by decide) ?_
          refine a_aload_n F 0 dX12_position_176 rfl rfl ?_
          refine a_geti F fl_12_293 rfl (by decide) rfl dX12_position_177 ?_
          refine a_callV (b := 0) (As := [.int 6, .int (I 0 40)]) (st := []) (ci := 12) F (c_wrong (xl X) I A J 6 (I 0 40)) ml_12_319 im_yX12_wrong se_yX12_wrong (by decide) (by decide) rfl (by decide) rfl rfl dX12_position_180 (by decide) (Nat.le_refl 0) (Nat.le_refl 0) (hl_r (by decide) (hl_i (hl_i (hl_i (hl_i (hl_i hl_nil)))))) hs_nil ?_
          rintro _ _ _ ⟨rfl, rfl, rfl⟩ _
          show WA X (mS (wrongI I (6 : Int32) (I 0 40)) A J) plM 0 0 183 [(0, .ref 0), (1, .int x1), (2, .int x2), (3, .int x3), (4, .int x4), (5, .int x5)] []
          exact e_3 c_13 c_15 c_16
  · refine a_if_eq (tgt := 183) F dX12_position_161 (by decide) (fun (c_17 : (0 : Int32) = 0) => ?_) (fun (c_17 : ¬ ((0 : Int32) = 0)) => ?_)
    · exact e_4 c_13
    · exact absurd c_17 (by decide)

theorem r_12_position_183 {X : Ctx} (F : Fx X cX12_position RX12 6 5 0 0) {I A : Nat → Nat → Int32} {J : Nat → Nat → Int64} {x1 x2 x3 x4 x5 : Int32}
    (o_1 : ((I 0 41) = 0) → ∃ n i, n ≤ 400 ∧ i ≤ n ∧ (I 0 36) = nI n ∧ (I 0 37) = nI i)
    (e_2 : ((I 0 41) = 0) → WA X (mS (gonI I A) A J) plM 0 0 194 [(0, .ref 0), (1, .int x1), (2, .int x2), (3, .int x3), (4, .int x4), (5, .int x5)] [])
    (e_3 : (¬ ((I 0 41) = 0)) → WA X (mS I A J) plM 0 0 194 [(0, .ref 0), (1, .int x1), (2, .int x2), (3, .int x3), (4, .int x4), (5, .int x5)] []) :
    WA X (mS I A J) plM 0 0 183 [(0, .ref 0), (1, .int x1), (2, .int x2), (3, .int x3), (4, .int x4), (5, .int x5)] [] := by
  refine a_aload_n F 0 dX12_position_183 rfl rfl ?_
  refine a_callV (b := 0) (As := []) (st := []) (ci := 12) F (c_fine (xl X) I A J ) ml_12_310 im_yX12_fine se_yX12_fine (by decide) (by decide) rfl (by decide) rfl rfl dX12_position_184 (by decide) (Nat.le_refl 0) (Nat.le_refl 0) (hl_r (by decide) (hl_i (hl_i (hl_i (hl_i (hl_i hl_nil)))))) hs_nil ?_
  rintro _ _ _ ⟨rfl, rfl, rfl⟩ _
  show WA X (mS I A J) plM 0 0 187 [(0, .ref 0), (1, .int x1), (2, .int x2), (3, .int x3), (4, .int x4), (5, .int x5)] [.int (if (I 0 41) = 0 then 1 else 0)]
  refine a_ite (fun (c_18 : (I 0 41) = 0) => ?_) (fun (c_18 : ¬ ((I 0 41) = 0)) => ?_)
  · refine a_if_eq (tgt := 194) F dX12_position_187 (by decide) (fun (c_19 : (1 : Int32) = 0) => ?_) (fun (c_19 : ¬ ((1 : Int32) = 0)) => ?_)
    · exact absurd c_19 (by decide)
    · refine a_aload_n F 0 dX12_position_190 rfl rfl ?_
      refine a_callV (b := 0) (As := []) (st := []) (ci := 12) F (c_goI (xl X) I A J  (o_1 c_18)) ml_12_316 im_yX12_go se_yX12_go (by decide) (by decide) rfl (by decide) rfl rfl dX12_position_191 (by decide) (Nat.le_refl 0) (Nat.le_refl 0) (hl_r (by decide) (hl_i (hl_i (hl_i (hl_i (hl_i hl_nil)))))) hs_nil ?_
      rintro _ _ _ ⟨rfl, rfl, rfl⟩ _
      show WA X (mS (gonI I A) A J) plM 0 0 194 [(0, .ref 0), (1, .int x1), (2, .int x2), (3, .int x3), (4, .int x4), (5, .int x5)] []
      exact e_2 c_18
  · refine a_if_eq (tgt := 194) F dX12_position_187 (by decide) (fun (c_20 : (0 : Int32) = 0) => ?_) (fun (c_20 : ¬ ((0 : Int32) = 0)) => ?_)
    · exact e_3 c_18
    · exact absurd c_20 (by decide)

theorem r_12_position_194 {X : Ctx} (F : Fx X cX12_position RX12 6 5 0 0) {I A : Nat → Nat → Int32} {J : Nat → Nat → Int64} {x1 x2 x3 x4 x5 : Int32}
    (e_1 : ((I 0 41) = 0) → ((I 0 38) = 0) → WA X (mS I A J) plM 0 0 217 [(0, .ref 0), (1, .int x1), (2, .int x2), (3, .int x3), (4, .int x4), (5, .int x5)] [])
    (e_2 : ((I 0 41) = 0) → (¬ ((I 0 38) = 0)) → WA X (mS (wrongI I (1 : Int32) (I 0 40)) A J) plM 0 0 217 [(0, .ref 0), (1, .int x1), (2, .int x2), (3, .int x3), (4, .int x4), (5, .int x5)] [])
    (e_3 : (¬ ((I 0 41) = 0)) → WA X (mS I A J) plM 0 0 217 [(0, .ref 0), (1, .int x1), (2, .int x2), (3, .int x3), (4, .int x4), (5, .int x5)] []) :
    WA X (mS I A J) plM 0 0 194 [(0, .ref 0), (1, .int x1), (2, .int x2), (3, .int x3), (4, .int x4), (5, .int x5)] [] := by
  refine a_aload_n F 0 dX12_position_194 rfl rfl ?_
  refine a_callV (b := 0) (As := []) (st := []) (ci := 12) F (c_fine (xl X) I A J ) ml_12_310 im_yX12_fine se_yX12_fine (by decide) (by decide) rfl (by decide) rfl rfl dX12_position_195 (by decide) (Nat.le_refl 0) (Nat.le_refl 0) (hl_r (by decide) (hl_i (hl_i (hl_i (hl_i (hl_i hl_nil)))))) hs_nil ?_
  rintro _ _ _ ⟨rfl, rfl, rfl⟩ _
  show WA X (mS I A J) plM 0 0 198 [(0, .ref 0), (1, .int x1), (2, .int x2), (3, .int x3), (4, .int x4), (5, .int x5)] [.int (if (I 0 41) = 0 then 1 else 0)]
  refine a_ite (fun (c_21 : (I 0 41) = 0) => ?_) (fun (c_21 : ¬ ((I 0 41) = 0)) => ?_)
  · refine a_if_eq (tgt := 217) F dX12_position_198 (by decide) (fun (c_22 : (1 : Int32) = 0) => ?_) (fun (c_22 : ¬ ((1 : Int32) = 0)) => ?_)
    · exact absurd c_22 (by decide)
    · refine a_aload_n F 0 dX12_position_201 rfl rfl ?_
      refine a_geti F fl_12_302 rfl (by decide) rfl dX12_position_202 ?_
      refine a_if_eq (tgt := 217) F dX12_position_205 (by decide) (fun (c_23 : (I 0 38) = 0) => ?_) (fun (c_23 : ¬ ((I 0 38) = 0)) => ?_)
      · exact e_1 c_21 c_23
      · refine a_aload_n F 0 dX12_position_208 rfl rfl ?_
        refine a_iconst (v := 1) F dX12_position_209 (by decide) ?_
        refine a_aload_n F 0 dX12_position_210 rfl rfl ?_
        refine a_geti F fl_12_293 rfl (by decide) rfl dX12_position_211 ?_
        refine a_callV (b := 0) (As := [.int 1, .int (I 0 40)]) (st := []) (ci := 12) F (c_wrong (xl X) I A J 1 (I 0 40)) ml_12_319 im_yX12_wrong se_yX12_wrong (by decide) (by decide) rfl (by decide) rfl rfl dX12_position_214 (by decide) (Nat.le_refl 0) (Nat.le_refl 0) (hl_r (by decide) (hl_i (hl_i (hl_i (hl_i (hl_i hl_nil)))))) hs_nil ?_
        rintro _ _ _ ⟨rfl, rfl, rfl⟩ _
        show WA X (mS (wrongI I (1 : Int32) (I 0 40)) A J) plM 0 0 217 [(0, .ref 0), (1, .int x1), (2, .int x2), (3, .int x3), (4, .int x4), (5, .int x5)] []
        exact e_2 c_21 c_23
  · refine a_if_eq (tgt := 217) F dX12_position_198 (by decide) (fun (c_24 : (0 : Int32) = 0) => ?_) (fun (c_24 : ¬ ((0 : Int32) = 0)) => ?_)
    · exact e_3 c_21
    · exact absurd c_24 (by decide)

theorem r_12_position_217 {X : Ctx} (F : Fx X cX12_position RX12 6 5 0 0) {Φ : Option Value → HS → List Nat → Prop} (E : Ex X (some .int) 0 0 Φ) {I A : Nat → Nat → Int32} {J : Nat → Nat → Int64} {x1 x2 x3 x4 x5 : Int32}
    (e_1 : ((I 0 41) = 0) → WA X (mS I A J) plM 0 0 229 [(0, .ref 0), (1, .int x1), (2, .int x2), (3, .int x3), (4, .int x4), (5, .int x5)] [])
    (e_2 : (¬ ((I 0 41) = 0)) → Φ (some (.int (I 0 41))) (mS I A J) plM) :
    WA X (mS I A J) plM 0 0 217 [(0, .ref 0), (1, .int x1), (2, .int x2), (3, .int x3), (4, .int x4), (5, .int x5)] [] := by
  refine a_aload_n F 0 dX12_position_217 rfl rfl ?_
  refine a_callV (b := 0) (As := []) (st := []) (ci := 12) F (c_fine (xl X) I A J ) ml_12_310 im_yX12_fine se_yX12_fine (by decide) (by decide) rfl (by decide) rfl rfl dX12_position_218 (by decide) (Nat.le_refl 0) (Nat.le_refl 0) (hl_r (by decide) (hl_i (hl_i (hl_i (hl_i (hl_i hl_nil)))))) hs_nil ?_
  rintro _ _ _ ⟨rfl, rfl, rfl⟩ _
  show WA X (mS I A J) plM 0 0 221 [(0, .ref 0), (1, .int x1), (2, .int x2), (3, .int x3), (4, .int x4), (5, .int x5)] [.int (if (I 0 41) = 0 then 1 else 0)]
  refine a_ite (fun (c_25 : (I 0 41) = 0) => ?_) (fun (c_25 : ¬ ((I 0 41) = 0)) => ?_)
  · refine a_if_ne (tgt := 229) F dX12_position_221 (by decide) (fun (c_26 : ¬ (1 : Int32) = 0) => ?_) (fun (c_26 : (1 : Int32) = 0) => ?_)
    · exact e_1 c_25
    · exact absurd c_26 (by decide)
  · refine a_if_ne (tgt := 229) F dX12_position_221 (by decide) (fun (c_27 : ¬ (0 : Int32) = 0) => ?_) (fun (c_27 : (0 : Int32) = 0) => ?_)
    · exact absurd c_27 (by decide)
    · refine a_aload_n F 0 dX12_position_224 rfl rfl ?_
      refine a_geti F fl_12_307 rfl (by decide) rfl dX12_position_225 ?_
      exact a_iret F E dX12_position_228 (Nat.le_refl 0) (Nat.le_refl 0) (e_2 c_25)

theorem r_12_position_229 {X : Ctx} (F : Fx X cX12_position RX12 6 5 0 0) {I A : Nat → Nat → Int32} {J : Nat → Nat → Int64} {x1 x2 x3 x4 x5 : Int32}
    (o_1 : ∃ p, p ≤ 8 ∧ (I 0 19) = nI p)
    (e_2 : WA X (mS (up2 I 0 19 (nI (remP (I 0 19).toNatClampNeg + 1))) (up1 A 18 (remRow (A 18) (I 0 19).toNatClampNeg (A 1) (I 0 2))) J) plM 0 0 236 [(0, .ref 0), (1, .int x1), (2, .int x2), (3, .int x3), (4, .int x4), (5, .int 0)] []) :
    WA X (mS I A J) plM 0 0 229 [(0, .ref 0), (1, .int x1), (2, .int x2), (3, .int x3), (4, .int x4), (5, .int x5)] [] := by
  refine a_aload_n F 0 dX12_position_229 rfl rfl ?_
  refine a_callV (b := 0) (As := []) (st := []) (ci := 12) F (c_rememberI (xl X) I A J  (o_1)) ml_12_255 im_yX12_remember se_yX12_remember (by decide) (by decide) rfl (by decide) rfl rfl dX12_position_230 (by decide) (Nat.le_refl 0) (Nat.le_refl 0) (hl_r (by decide) (hl_i (hl_i (hl_i (hl_i (hl_i hl_nil)))))) hs_nil ?_
  rintro _ _ _ ⟨rfl, rfl, rfl⟩ _
  show WA X (mS (up2 I 0 19 (nI (remP (I 0 19).toNatClampNeg + 1))) (up1 A 18 (remRow (A 18) (I 0 19).toNatClampNeg (A 1) (I 0 2))) J) plM 0 0 233 [(0, .ref 0), (1, .int x1), (2, .int x2), (3, .int x3), (4, .int x4), (5, .int x5)] []
  refine a_iconst (v := 0) F dX12_position_233 (by decide) ?_
  refine a_istore F dX12_position_234 (by decide) rfl ?_
  refine a_sub [1, 2, 3, 4, 5, 0] rfl ?_
  exact e_2

theorem r_12_position_236 {X : Ctx} (F : Fx X cX12_position RX12 6 5 0 0) {Φ : Option Value → HS → List Nat → Prop} (E : Ex X (some .int) 0 0 Φ) {I A : Nat → Nat → Int32} {J : Nat → Nat → Int64} {x1 x2 x3 x4 x5 : Int32}
    (o_1 : (52 ≤ x5) → vp_in 0 52)
    (o_2 : (52 ≤ x5) → vp_in 26 52)
    (e_3 : (52 ≤ x5) → Φ (some (.int 0)) (mS (up2 (up2 I 0 2 x2) 0 16 0) (up1 (up1 A 1 (upd (A 1) 0 (15 - x3))) 1 (upd (upd (A 1) 0 (15 - x3)) 26 (15 - x4))) J) plM)
    (o_4 : (¬ (52 ≤ x5)) → vp_in x5 52)
    (o_5 : (¬ (52 ≤ x5)) → vp_in x5 52)
    (e_6 : (¬ (52 ≤ x5)) → WA X (mS I (up1 A 1 (upd (A 1) x5.toNatClampNeg (A 43 x5.toNatClampNeg))) J) plM 0 0 236 [(0, .ref 0), (1, .int x1), (2, .int x2), (3, .int x3), (4, .int x4), (5, .int (x5 + 1))] []) :
    WA X (mS I A J) plM 0 0 236 [(0, .ref 0), (1, .int x1), (2, .int x2), (3, .int x3), (4, .int x4), (5, .int x5)] [] := by
  refine a_iload F 5 dX12_position_236 rfl ?_
  refine a_bipush (v := 52) F dX12_position_238 (by decide) ?_
  refine a_icmp_ge (tgt := 263) F dX12_position_240 (by decide) (fun (c_28 : 52 ≤ x5) => ?_) (fun (c_28 : ¬ (52 ≤ x5)) => ?_)
  · refine a_aload_n F 0 dX12_position_263 rfl rfl ?_
    refine a_getr (b := 1) F fl_12_13 rfl (by decide) rfl rfl dX12_position_264 ?_
    refine a_iconst (v := 0) F dX12_position_267 (by decide) ?_
    refine a_bipush (v := 15) F dX12_position_268 (by decide) ?_
    refine a_iload_n F 3 dX12_position_270 rfl rfl ?_
    refine a_isub F dX12_position_271 ?_
    refine a_iast F (by decide) rfl (o_1 c_28) dX12_position_272 ?_
    refine a_aload_n F 0 dX12_position_273 rfl rfl ?_
    refine a_getr (b := 1) F fl_12_13 rfl (by decide) rfl rfl dX12_position_274 ?_
    refine a_bipush (v := 26) F dX12_position_277 (by decide) ?_
    refine a_bipush (v := 15) F dX12_position_279 (by decide) ?_
    refine a_iload F 4 dX12_position_281 rfl ?_
    refine a_isub F dX12_position_283 ?_
    refine a_iast F (by decide) rfl (o_2 c_28) dX12_position_284 ?_
    refine a_aload_n F 0 dX12_position_285 rfl rfl ?_
    refine a_iload_n F 2 dX12_position_286 rfl rfl ?_
    refine a_puti F fl_12_149 rfl rfl rfl rfl (by decide) rfl dX12_position_287 ?_
    refine a_aload_n F 0 dX12_position_290 rfl rfl ?_
    refine a_iconst (v := 0) F dX12_position_291 (by decide) ?_
    refine a_puti F fl_12_152 rfl rfl rfl rfl (by decide) rfl dX12_position_292 ?_
    refine a_iconst (v := 0) F dX12_position_295 (by decide) ?_
    exact a_iret F E dX12_position_296 (Nat.le_refl 0) (Nat.le_refl 0) (e_3 c_28)
  · refine a_aload_n F 0 dX12_position_243 rfl rfl ?_
    refine a_getr (b := 1) F fl_12_13 rfl (by decide) rfl rfl dX12_position_244 ?_
    refine a_iload F 5 dX12_position_247 rfl ?_
    refine a_aload_n F 0 dX12_position_249 rfl rfl ?_
    refine a_getr (b := 43) F fl_12_63 rfl (by decide) rfl rfl dX12_position_250 ?_
    refine a_iload F 5 dX12_position_253 rfl ?_
    refine a_iald F (by decide) rfl (o_4 c_28) dX12_position_255 ?_
    refine a_iast F (by decide) rfl (o_5 c_28) dX12_position_256 ?_
    refine a_iinc (v := x5 + 1) F 5 dX12_position_257 rfl rfl (by decide) rfl ?_
    refine a_goto (tgt := 236) F dX12_position_260 (by decide) ?_
    refine a_sub [1, 2, 3, 4, 5, 0] rfl ?_
    exact e_6 c_28

set_option maxRecDepth 10000 in
theorem c_position (l : Launch) (I A : Nat → Nat → Int32) (J : Nat → Nat → Int64) (m : Int32) (t p : Nat) (ht : t ≤ 400) (h35 : I 0 35 = nI t) (hp : p ≤ 8) (h19 : I 0 19 = nI p) : Con l 5 yX12_position cX12_position 6 (some .int) [.ref 0, .int m] (mS I A J) plM 0 0 (if 0 ≤ m ∧ m ≤ I 0 35 then (if 0 < I 0 20 ∧ I 0 20 < 6 then PM (some (.int 0)) (up2 I 0 0 2) A J else posQ (begI I A m) A J p m.toNatClampNeg (posF (A 34) m.toNatClampNeg)) else PM (some (.int 0)) (up2 I 0 0 1) A J) := by
  refine Con.of (by decide) (Nat.le_of_ble_eq_true rfl) (fun X hX9 hn9 F E => ?_)
  refine r_12_position_0 F E ?_ ?_ ?_ ?_ ?_
  · intro h; rw [if_neg (by grind)]; exact ⟨rfl, by rw [up2_up2], rfl⟩
  · intro h h2; rw [if_neg (by grind)]; exact ⟨rfl, by rw [up2_up2], rfl⟩
  · intro h h2 h3; rw [if_pos (by grind), if_pos h3]; exact ⟨rfl, by rw [up2_up2], rfl⟩
  · intro h h2 h3
    refine ⟨by grind, ?_⟩
    have : I 0 35 ≤ 400 := by rw [h35, nI_len 400 (by omega) (by omega)]; exact ht
    grind
  intro g1 g2 g3
  rw [if_pos (by grind), if_neg g3] at E
  obtain ⟨n, hnt, em⟩ := nI_of2 (x := m) (M := nI t) (n := t) (nI_toInt (by omega)) (by grind) (by rw [← h35]; grind)
  have hn : n ≤ 400 := by omega
  have en : m.toNatClampNeg = n := by rw [em]; exact nI_clamp (by omega)
  rw [en] at E
  -- the state behind beginText()
  show WA X (mS (begI I A m) A J) plM 0 0 59 [(0, .ref 0), (1, .int m), (2, .int 0)] []
  have b41 : begI I A m 0 41 = 0 := by unfold begI; rw [gon_k (by decide)]; rfl
  have b19 : begI I A m 0 19 = nI p := by unfold begI; rw [gon_k (by decide)]; exact h19
  have bAt : AtP (begI I A m) (A 34) n (endT bBl (A 34) n 0) := by
    unfold begI gonI
    have e36 : up2 (up2 (up2 (up2 (up2 (up2 I 0 0 0) 0 36 m) 0 35 0) 0 37 0) 0 41 0) 0 42 (-1) 0 36 = m := rfl
    have e37 : up2 (up2 (up2 (up2 (up2 (up2 I 0 0 0) 0 36 m) 0 35 0) 0 37 0) 0 41 0) 0 42 (-1) 0 37 = 0 := rfl
    rw [e36, e37, en, show (0 : Int32).toNatClampNeg = 0 from rfl]
    exact ⟨hn, (endT_b n 0 (by omega) (by omega)).2, em, rfl, rfl, rfl, rfl⟩
  generalize begI I A m = I0 at E b41 b19 bAt ⊢
  clear g1 g2 g3 h35 h19
  -- behind a FAULT
  have d217 : ∀ (I' A' : Nat → Nat → Int32) (x2 x3 x4 x5 : Int32) (Φ : Option Value → HS → List Nat → Prop), Ex X (some .int) 0 0 Φ → ¬ I' 0 41 = 0 → Φ (some (.int (I' 0 41))) (mS I' A' J) plM → WA X (mS I' A' J) plM 0 0 217 [(0, .ref 0), (1, .int m), (2, .int x2), (3, .int x3), (4, .int x4), (5, .int x5)] [] := fun I' A' x2 x3 x4 x5 Φ E hd hΦ => r_12_position_217 F E (fun h => absurd h hd) (fun _ => hΦ)
  have d194 : ∀ (I' A' : Nat → Nat → Int32) (x2 x3 x4 x5 : Int32) (Φ : Option Value → HS → List Nat → Prop), Ex X (some .int) 0 0 Φ → ¬ I' 0 41 = 0 → Φ (some (.int (I' 0 41))) (mS I' A' J) plM → WA X (mS I' A' J) plM 0 0 194 [(0, .ref 0), (1, .int m), (2, .int x2), (3, .int x3), (4, .int x4), (5, .int x5)] [] := fun I' A' x2 x3 x4 x5 Φ E hd hΦ => r_12_position_194 F (fun h => absurd h hd) (fun h => absurd h hd) (fun _ => d217 I' A' x2 x3 x4 x5 Φ E hd hΦ)
  have d183 : ∀ (I' A' : Nat → Nat → Int32) (x2 x3 x4 x5 : Int32) (Φ : Option Value → HS → List Nat → Prop), Ex X (some .int) 0 0 Φ → ¬ I' 0 41 = 0 → Φ (some (.int (I' 0 41))) (mS I' A' J) plM → WA X (mS I' A' J) plM 0 0 183 [(0, .ref 0), (1, .int m), (2, .int x2), (3, .int x3), (4, .int x4), (5, .int x5)] [] := fun I' A' x2 x3 x4 x5 Φ E hd hΦ => r_12_position_183 F (fun h => absurd h hd) (fun h => absurd h hd) (fun _ => d194 I' A' x2 x3 x4 x5 Φ E hd hΦ)
  have sum : ∀ (I' A' : Nat → Nat → Int32) (x2 : Int32) (k : ∀ x3 x4 x5 : Int32, (∀ rd, rdRow (A' 43) rd → x3 = nI (sumR rd 0 25) ∧ x4 = nI (sumR rd 26 25)) → WA X (mS I' A' J) plM 0 0 157 [(0, .ref 0), (1, .int m), (2, .int x2), (3, .int x3), (4, .int x4), (5, .int x5)] []), WA X (mS I' A' J) plM 0 0 119 [(0, .ref 0), (1, .int m), (2, .int x2), (3, .int 0), (4, .int 0), (5, .int 1)] [] := by
    intro I' A' x2 k
    have loop : ∀ f i (x3 x4 : Int32), i + f = 25 → (∀ rd, rdRow (A' 43) rd → x3 = nI (sumR rd 0 i) ∧ x4 = nI (sumR rd 26 i)) → WA X (mS I' A' J) plM 0 0 119 [(0, .ref 0), (1, .int m), (2, .int x2), (3, .int x3), (4, .int x4), (5, .int (nI (i + 1)))] [] := by
      intro f
      induction f with
      | zero =>
        intro i x3 x4 hi hs
        obtain rfl : i = 25 := by omega
        exact r_12_position_119 F (fun _ => k _ _ _ hs) (fun h => absurd (nI_le (a := 26) (b := 26) (by omega) (by omega)) h) (fun h => absurd (nI_le (a := 26) (b := 26) (by omega) (by omega)) h) (fun h => absurd (nI_le (a := 26) (b := 26) (by omega) (by omega)) h)
      | succ f ih =>
        intro i x3 x4 hi hs
        have e26 : 26 + nI (i + 1) = nI (26 + (i + 1)) := by rw [lit 26, nI_add]
        refine r_12_position_119 F (fun h => absurd h (nI_ge (b := 26) (by omega) (by omega))) (fun _ => vp_in_nI (by omega) (by omega)) (fun _ => by rw [e26]; exact vp_in_nI (by omega) (by omega)) (fun _ => ?_)
        rw [e26, nI_clamp (by omega), nI_clamp (by omega), nI_1]
        refine ih (i + 1) _ _ (by omega) (fun rd hr => ?_)
        rw [(hs rd hr).1, (hs rd hr).2, (hr (i + 1) (by omega)).1, (hr (26 + (i + 1)) (by omega)).1, nI_add, nI_add]
        simp only [sumR, Nat.zero_add]
        exact ⟨trivial, trivial⟩
    exact loop 25 0 0 0 rfl (fun rd _ => ⟨rfl, rfl⟩)
  have d119 : ∀ (I' A' : Nat → Nat → Int32) (x2 : Int32) (Φ : Option Value → HS → List Nat → Prop), Ex X (some .int) 0 0 Φ → ¬ I' 0 41 = 0 → Φ (some (.int (I' 0 41))) (mS I' A' J) plM → WA X (mS I' A' J) plM 0 0 119 [(0, .ref 0), (1, .int m), (2, .int x2), (3, .int 0), (4, .int 0), (5, .int 1)] [] := fun I' A' x2 Φ E hd hΦ => sum I' A' x2 (fun x3 x4 x5 _ => r_12_position_157 F (fun h => absurd h hd) (fun h => absurd h hd) (fun h => absurd h hd) (fun _ => d183 I' A' x2 x3 x4 x5 Φ E hd hΦ))
  have d94 : ∀ (I' A' : Nat → Nat → Int32) (x2 : Int32) (Φ : Option Value → HS → List Nat → Prop), Ex X (some .int) 0 0 Φ → ¬ I' 0 41 = 0 → Φ (some (.int (I' 0 41))) (mS I' A' J) plM → WA X (mS I' A' J) plM 0 0 94 [(0, .ref 0), (1, .int m), (2, .int x2)] [] := fun I' A' x2 Φ E hd hΦ => r_12_position_94 F (fun h => absurd h hd) (by rw [need_d hd, num_d hd]; exact d119 I' A' _ Φ E hd hΦ)
  have d91 : ∀ (I' A' : Nat → Nat → Int32) (x2 : Int32) (Φ : Option Value → HS → List Nat → Prop), Ex X (some .int) 0 0 Φ → ¬ I' 0 41 = 0 → Φ (some (.int (I' 0 41))) (mS I' A' J) plM → WA X (mS I' A' J) plM 0 0 91 [(0, .ref 0), (1, .int m), (2, .int x2)] [.int 1, .ref 0] := by
    intro I' A' x2 Φ E hd hΦ
    refine a_callV (b := 0) (As := [.int 1]) (st := []) (ci := 12) F (c_stacksD (xl X) I' A' J 1 hd) ml_12_325 im_yX12_stacks se_yX12_stacks (by decide) (by decide) rfl (by decide) rfl rfl dX12_position_91 (by decide) (Nat.le_refl 0) (Nat.le_refl 0) (hl_r (by decide) (hl_i (hl_i hl_nil))) hs_nil ?_
    rintro _ _ _ ⟨rfl, rfl, rfl⟩ _
    exact d94 I' A' x2 Φ E hd hΦ
  have err : ∀ (I' A' : Nat → Nat → Int32) (f q : Nat), f ≠ 0 → f < 10 → q ≤ n → I' 0 41 = nI f → I' 0 42 = nI q → Fr I0 I' → (∀ q, q ≠ 43 → A' q = A q) → ¬ I' 0 41 = 0 ∧ posQ I0 A J p n (.error (f, q)) (some (.int (I' 0 41))) (mS I' A' J) plM := by
    intro I' A' f q hf hf2 hq h41 h42 hfr hA
    exact ⟨by rw [h41]; exact nI_ne0 (by omega) (by omega), rfl, I', A', rfl, hf, hf2, hq, by rw [h41], hfr, h42, hA⟩
  have werr : ∀ (I' A' : Nat → Nat → Int32) (f q : Nat), f ≠ 0 → f < 10 → q ≤ n → I' 0 41 = 0 → I' 0 40 = nI q → Fr I0 I' → (∀ q, q ≠ 43 → A' q = A q) → ¬ wrongI I' (nI f) (I' 0 40) 0 41 = 0 ∧ posQ I0 A J p n (.error (f, q)) (some (.int (wrongI I' (nI f) (I' 0 40) 0 41))) (mS (wrongI I' (nI f) (I' 0 40)) A' J) plM := by
    intro I' A' f q hf hf2 hq h41 h40 hfr hA
    have w := wrong_0 (f := nI f) (p := I' 0 40) h41
    exact err _ A' f q hf hf2 hq w.1 (w.2.trans h40) (hfr.tr (wrong_fr _ _ _)) hA
  -- the board that was read is cleared
  have clr : ∀ f i, i + f = 52 → WA X (mS I0 (up1 A 43 (segF (A 43) 0 i (fun _ => 0))) J) plM 0 0 59 [(0, .ref 0), (1, .int m), (2, .int (nI i))] [] := by
    intro f
    induction f with
    | succ f ih =>
      intro i hi
      refine r_12_position_59 F (fun h => absurd h (nI_ge (b := 52) (by omega) (by omega))) (fun _ => vp_in_nI (by omega) (by omega)) (fun _ => ?_)
      rw [nI_clamp (by omega), up1_up1, up1_s, nI_1]
      have k := ih (i + 1) (by omega)
      rw [← seg_s, Nat.zero_add] at k
      exact k
    | zero =>
      intro i hi
      obtain rfl : i = 52 := by omega
      refine r_12_position_59 F (fun _ => ?_) (fun h => absurd (nI_le (a := 52) (b := 52) (by omega) (by omega)) h) (fun h => absurd (nI_le (a := 52) (b := 52) (by omega) (by omega)) h)
      have hA0 : ∀ q, q ≠ 43 → up1 A 43 (segF (A 43) 0 52 (fun _ => 0)) q = A q := fun q hq => up1_p hq
      have hr0 : rdRow (up1 A 43 (segF (A 43) 0 52 (fun _ => 0)) 43) (fun _ => 0) := fun k hk => ⟨by rw [up1_s]; have := seg_in (f := A 43) (g := fun _ => (0 : Int32)) (o := 0) hk; rw [Nat.zero_add] at this; exact this, Nat.zero_le _⟩
      generalize up1 A 43 (segF (A 43) 0 52 (fun _ => 0)) = A0 at hA0 hr0 ⊢
      have h34 : A0 34 = A 34 := hA0 34 (by decide)
      refine a_callV (b := 0) (As := [.int 0]) (st := []) (ci := 12) F (c_stacks (xl X) I0 A0 J 0 n (endT bBl (A 34) n 0) (fun _ => 0) (by omega) b41 (by rw [h34]; exact bAt) hr0) ml_12_325 im_yX12_stacks se_yX12_stacks (by decide) (by decide) rfl (by decide) rfl rfl dX12_position_80 (by decide) (Nat.le_refl 0) (Nat.le_refl 0) (hl_r (by decide) (hl_i (hl_i hl_nil))) hs_nil ?_
      rintro _ _ _ ⟨rfl, rfl, I1, A1, rfl, hfr1, hA1, hres⟩ _
      show WA X (mS I1 A1 J) plM 0 0 83 [(0, .ref 0), (1, .int m), (2, .int (nI 52))] []
      rw [h34] at hres
      have hA1 : ∀ q, q ≠ 43 → A1 q = A q := fun q hq => (hA1 q hq).trans (hA0 q hq)
      have h341 : A1 34 = A 34 := hA1 34 (by decide)
      unfold posF at E
      cases hs : stkT (A 34) n 0 (fun _ => 0) (endT bBl (A 34) n 0) with
      | error fp =>
        rw [hs] at hres E
        obtain ⟨e1, e2, e3, e4, e5⟩ := hres
        obtain ⟨hd, hΦ⟩ := err I1 A1 fp.1 fp.2 e1 e2 e3 e4 e5 hfr1 hA1
        exact r_12_position_83 F (fun h => absurd h hd) (by rw [need_d hd]; exact d91 I1 A1 _ _ E hd hΦ)
      | ok r1 =>
        rw [hs] at hres E
        obtain ⟨e1, e2, e3, e4⟩ := hres
        have e3 : AtP I1 (A 34) n r1.1 := by rw [← h341] at e3 ⊢; rw [h341] at e3 ⊢; exact e3
        obtain ⟨-, hpn1, h36a, h37a, h38a, h39a, h40a⟩ := id e3
        refine r_12_position_83 F (fun _ h4 => e3.ok (tk_lt (by rw [← h38a, h4]; decide))) ?_
        dsimp only at E
        by_cases c1 : ¬ (tkS (A 34) n r1.1 = 4 ∧ tkV (A 34) n r1.1 = 59)
        · rw [if_pos c1] at E
          rw [need_f (by rw [h38a, h39a]; exact c1)]
          obtain ⟨hd, hΦ⟩ := werr I1 A1 1 r1.1 (by omega) (by omega) hpn1 e1 h40a hfr1 hA1
          exact d91 _ A1 _ _ E hd hΦ
        · rw [if_neg c1] at E
          have c1 := Classical.not_not.mp c1
          have hlt1 : r1.1 < n := tk_lt (by rw [c1.1]; decide)
          rw [need_t e1 (by rw [h38a]; exact c1.1) (by rw [h39a]; exact c1.2), gon_A (A := A) h341]
          have g41 : gonI I1 A 0 41 = 0 := by rw [gon_k (by decide)]; exact e1
          have gAt := e3.go hlt1
          have gfr := hfr1.tr (gon_fr I1 A)
          have g42 : gonI I1 A 0 42 = I0 0 42 := by rw [gon_k (by decide)]; exact e2
          generalize gonI I1 A = I2 at g41 gAt gfr g42 ⊢
          refine a_callV (b := 0) (As := [.int 1]) (st := []) (ci := 12) F (c_stacks (xl X) I2 A1 J 1 n (nxP (A 34) n r1.1) r1.2 (by omega) g41 (by rw [h341]; exact gAt) e4) ml_12_325 im_yX12_stacks se_yX12_stacks (by decide) (by decide) rfl (by decide) rfl rfl dX12_position_91 (by decide) (Nat.le_refl 0) (Nat.le_refl 0) (hl_r (by decide) (hl_i (hl_i hl_nil))) hs_nil ?_
          rintro _ _ _ ⟨rfl, rfl, I3, A3, rfl, hfr3, hA3, hres⟩ _
          show WA X (mS I3 A3 J) plM 0 0 94 [(0, .ref 0), (1, .int m), (2, .int (nI 52))] []
          rw [h341] at hres
          have hA3 : ∀ q, q ≠ 43 → A3 q = A q := fun q hq => (hA3 q hq).trans (hA1 q hq)
          have h343 : A3 34 = A 34 := hA3 34 (by decide)
          have hfr3 := gfr.tr hfr3
          cases hs2 : stkT (A 34) n 1 r1.2 (nxP (A 34) n r1.1) with
          | error fp =>
            rw [hs2] at hres E
            obtain ⟨e1, e2, e3, e4, e5⟩ := hres
            obtain ⟨hd, hΦ⟩ := err I3 A3 fp.1 fp.2 e1 e2 e3 e4 e5 hfr3 hA3
            exact d94 I3 A3 _ _ E hd hΦ
          | ok r2 =>
            rw [hs2] at hres E
            obtain ⟨f1, f2, f3, f4⟩ := hres
            obtain ⟨-, hpn2, h36b, h37b, h38b, h39b, h40b⟩ := id f3
            dsimp only at E
            refine r_12_position_94 F (fun _ h4 => f3.ok (tk_lt (by rw [← h38b, h4]; decide))) ?_
            by_cases c2 : ¬ (tkS (A 34) n r2.1 = 4 ∧ tkV (A 34) n r2.1 = 59)
            · rw [if_pos c2] at E
              obtain ⟨hd, hΦ⟩ := werr I3 A3 1 r2.1 (by omega) (by omega) hpn2 f1 h40b hfr3 hA3
              rw [need_f (by rw [h38b, h39b]; exact c2), num_d (show ¬ wrongI I3 1 (I3 0 40) 0 41 = 0 from hd)]
              exact d119 _ A3 _ _ E hd hΦ
            · rw [if_neg c2] at E
              have c2 := Classical.not_not.mp c2
              have hlt2 : r2.1 < n := tk_lt (by rw [c2.1]; decide)
              rw [need_t f1 (by rw [h38b]; exact c2.1) (by rw [h39b]; exact c2.2), gon_A (A := A) h343]
              have g41 : gonI I3 A 0 41 = 0 := by rw [gon_k (by decide)]; exact f1
              have gAt := f3.go hlt2
              have gfr4 := hfr3.tr (gon_fr I3 A)
              have g424 : gonI I3 A 0 42 = I0 0 42 := by rw [gon_k (by decide), f2]; exact g42
              generalize gonI I3 A = I4 at g41 gAt gfr4 g424 ⊢
              obtain ⟨-, hpn3, h36c, h37c, h38c, h39c, h40c⟩ := id gAt
              by_cases c3 : ¬ tkS (A 34) n (nxP (A 34) n r2.1) = 2
              · rw [if_pos c3] at E
                obtain ⟨hd, hΦ⟩ := werr I4 A3 1 _ (by omega) (by omega) hpn3 g41 h40c gfr4 hA3
                rw [num_1 g41 (by rw [h38c]; exact c3)]
                exact d119 _ A3 _ _ E hd hΦ
              · rw [if_neg c3] at E
                have c3 := Classical.not_not.mp c3
                have hlt3 : nxP (A 34) n r2.1 < n := tk_lt (by rw [c3]; decide)
                by_cases c4 : tkV (A 34) n (nxP (A 34) n r2.1) < 0 ∨ 1 < tkV (A 34) n (nxP (A 34) n r2.1)
                · rw [if_pos c4] at E
                  obtain ⟨hd, hΦ⟩ := werr I4 A3 2 _ (by omega) (by omega) hpn3 g41 h40c gfr4 hA3
                  rw [num_2 g41 (by rw [h38c]; exact c3) (by rw [h39c]; exact c4)]
                  exact d119 _ A3 _ _ E hd hΦ
                · rw [if_neg c4] at E
                  rw [num_t g41 (by rw [h38c]; exact c3) (by rw [h39c]; exact c4)]
                  refine sum I4 A3 _ (fun x3 x4 x5 hsum => ?_)
                  obtain ⟨s3, s4⟩ := hsum r2.2 f4
                  have sb : ∀ o i, o ≤ 26 → i ≤ 25 → sumR r2.2 o i ≤ 15 * i := by
                    intro o i ho hi
                    induction i with
                    | zero => simp [sumR]
                    | succ i ih2 => have := ih2 (by omega); have h9 := (f4 (o + (i + 1)) (by omega)).2; simp only [sumR]; omega
                  have b3 := sb 0 25 (by omega) (by omega)
                  have b4 := sb 26 25 (by omega) (by omega)
                  have z3 : x3 = 0 ↔ sumR r2.2 0 25 = 0 := by rw [s3]; exact nI_eqn 0 (by omega) (by omega)
                  have z4 : x4 = 0 ↔ sumR r2.2 26 25 = 0 := by rw [s4]; exact nI_eqn 0 (by omega) (by omega)
                  have go183 : ¬ (sumR r2.2 0 25 = 0 ∧ sumR r2.2 26 25 = 0) → WA X (mS I4 A3 J) plM 0 0 183 [(0, .ref 0), (1, .int m), (2, .int (I4 0 39)), (3, .int x3), (4, .int x4), (5, .int x5)] [] := by
                    intro c5
                    rw [if_neg c5] at E
                    refine r_12_position_183 F (fun _ => gAt.ok hlt3) (fun _ => ?_) (fun h => absurd g41 h)
                    rw [gon_A (A := A) h343]
                    have k41 : gonI I4 A 0 41 = 0 := by rw [gon_k (by decide)]; exact g41
                    have kAt := gAt.go hlt3
                    have kfr := gfr4.tr (gon_fr I4 A)
                    have k42 : gonI I4 A 0 42 = I0 0 42 := by rw [gon_k (by decide)]; exact g424
                    generalize gonI I4 A = I5 at k41 kAt kfr k42 ⊢
                    obtain ⟨-, hpn4, h36d, h37d, h38d, h39d, h40d⟩ := id kAt
                    refine r_12_position_194 F (fun _ c6 => ?_) (fun _ c6 => ?_) (fun h => absurd k41 h)
                    · rw [h38d] at c6
                      rw [if_neg (fun z => z c6)] at E
                      refine r_12_position_217 F E (fun _ => ?_) (fun h => absurd k41 h)
                      have i19 : I5 0 19 = nI p := (kfr 19 (by omega)).trans b19
                      refine r_12_position_229 F ⟨p, hp, i19⟩ ?_
                      rw [i19, nI_clamp (by omega), hA3 18 (by decide), hA3 1 (by decide), kfr 2 (by omega)]
                      obtain ⟨w, hw, ew⟩ := nI_of2 (x := tkV (A 34) n (nxP (A 34) n r2.1)) (M := 1) (n := 1) rfl (by grind) (by grind)
                      have eN : tkN (A 34) n (nxP (A 34) n r2.1) = w := by unfold tkN; rw [ew]; exact nI_clamp (by omega)
                      rw [eN] at E
                      rw [h39c, ew]
                      generalize hI6 : up2 I5 0 19 (nI (remP p + 1)) = I6
                      have hA6 : ∀ q, q ≠ 18 → q ≠ 43 → up1 A3 18 (remRow (A 18) p (A 1) (I0 0 2)) q = A q := fun q h1 h2 => by rw [up1_p h1]; exact hA3 q h2
                      have hA618 : up1 A3 18 (remRow (A 18) p (A 1) (I0 0 2)) 18 = remRow (A 18) p (A 1) (I0 0 2) := up1_s
                      have hA643 : rdRow (up1 A3 18 (remRow (A 18) p (A 1) (I0 0 2)) 43) r2.2 := by rw [up1_p (by decide)]; exact f4
                      generalize up1 A3 18 (remRow (A 18) p (A 1) (I0 0 2)) = A6 at hA6 hA618 hA643 ⊢
                      have copy : ∀ f i, i + f = 52 → WA X (mS I6 (up1 A6 1 (segF (A6 1) 0 i (A6 43))) J) plM 0 0 236 [(0, .ref 0), (1, .int m), (2, .int (nI w)), (3, .int x3), (4, .int x4), (5, .int (nI i))] [] := by
                        intro f
                        induction f with
                        | zero =>
                          intro i hi
                          obtain rfl : i = 52 := by omega
                          refine r_12_position_236 F E (fun _ => vp_in_nI (n := 0) (by omega) (by omega)) (fun _ => vp_in_nI (n := 26) (by omega) (by omega)) (fun _ => ?_) (fun h => absurd (nI_le (a := 52) (b := 52) (by omega) (by omega)) h) (fun h => absurd (nI_le (a := 52) (b := 52) (by omega) (by omega)) h) (fun h => absurd (nI_le (a := 52) (b := 52) (by omega) (by omega)) h)
                          have g6 : ∀ k, k ≠ 19 → I6 0 k = I5 0 k := fun k hk => by rw [← hI6]; exact up2_k hk
                          refine ⟨rfl, _, _, rfl, hw, rfl, by rw [up2_k (by decide), up2_s], up2_s, ?_, ?_, ?_, ?_, ?_, ?_⟩
                          · rw [up2_k (by decide), up2_k (by decide), ← hI6]; exact up2_s
                          · rw [up2_k (by decide), up2_k (by decide), g6 42 (by decide)]; exact k42
                          · intro k h1 h2 h3 h4; rw [up2_k h2, up2_k h1, g6 k h3]; exact kfr k h4
                          · intro k hk
                            rw [up1_up1, up1_s, up1_s]
                            unfold posB
                            by_cases k0 : k = 0
                            · subst k0; rw [upd_out (by decide), upd_in, if_pos rfl, s3]
                            · by_cases k26 : k = 26
                              · subst k26; rw [upd_in, if_neg (by decide), if_pos rfl, s4]
                              · rw [upd_out k26, upd_out k0, if_neg k0, if_neg k26]
                                have := seg_in (f := A6 1) (g := A6 43) (o := 0) hk
                                rw [Nat.zero_add] at this
                                rw [this]; exact (hA643 k hk).1
                          · rw [up1_up1, up1_up1, up1_p (by decide)]; exact hA618
                          · intro q h1 h2 h3; rw [up1_up1, up1_up1, up1_p h1]; exact hA6 q h2 h3
                        | succ f ih2 =>
                          intro i hi
                          refine r_12_position_236 F E (fun h => absurd h (nI_ge (b := 52) (by omega) (by omega))) (fun h => absurd h (nI_ge (b := 52) (by omega) (by omega))) (fun h => absurd h (nI_ge (b := 52) (by omega) (by omega))) (fun _ => vp_in_nI (by omega) (by omega)) (fun _ => vp_in_nI (by omega) (by omega)) (fun _ => ?_)
                          rw [nI_clamp (by omega), up1_up1, up1_s, up1_p (show (43 : Nat) ≠ 1 by decide), nI_1]
                          have k := ih2 (i + 1) (by omega)
                          rw [← seg_s, Nat.zero_add] at k
                          exact k
                      have k := copy 52 0 rfl
                      rw [seg_0, up1_id] at k
                      exact k
                    · rw [h38d] at c6
                      rw [if_pos c6] at E
                      obtain ⟨hd, hΦ⟩ := werr I5 A3 1 _ (by omega) (by omega) hpn4 k41 h40d kfr hA3
                      exact d217 _ A3 _ _ _ _ _ E hd hΦ
                  refine r_12_position_157 F (fun _ c5 => go183 (fun z => c5 (z3.mpr z.1))) (fun _ _ c5 => go183 (fun z => c5 (z4.mpr z.2))) (fun _ c5 c6 => ?_) (fun h => absurd g41 h)
                  rw [if_pos ⟨z3.mp c5, z4.mp c6⟩] at E
                  obtain ⟨hd, hΦ⟩ := werr I4 A3 6 _ (by omega) (by omega) hpn3 g41 h40c gfr4 hA3
                  exact d183 _ A3 _ _ _ _ _ E hd hΦ
  have k := clr 52 0 rfl
  rw [seg_0, up1_id] at k
  exact k
