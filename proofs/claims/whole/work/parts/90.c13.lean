def ptF (T : Nat → Int32) (n p : Nat) (code : Int32) (nm : Nat) : Except (Nat × Nat) Nat :=
  if tkS T n p = 3 ∧ tkV T n p = code then .ok nm
  else if ¬ tkS T n p = 2 then .error (1, p)
  else if tkV T n p < 1 ∨ 24 < tkV T n p then .error (2, p)
  else .ok (tkN T n p)
def ptQ (P O : Nat → Nat → Option Nat) (I A : Nat → Nat → Int32) (J : Nat → Nat → Int64) (pl : List Nat) (p n nm : Nat) (res : Except (Nat × Nat) Nat) : Option Value → HS → List Nat → Prop := fun rv σ' pl' => pl = pl' ∧
  match res with
  | .error fp => rv = some (.int (-1)) ∧ σ' = mC P O (faI I (nI fp.1)) A J ∧ fp.2 = p
  | .ok v => rv = some (.int (nI v)) ∧ σ' = mC P O I A J ∧ (v = nm ∨ (1 ≤ v ∧ v ≤ 24)) ∧ p < n
def stpF (T : Nat → Int32) (n a : Nat) (mv : MV) (q : Nat) : Except (Nat × Nat) (Nat × Nat × MV) :=
  if ¬ (tkS T n q = 4 ∧ tkV T n q = 47) then .error (1, q)
  else match ptF T n (nxP T n q) 2 0 with
    | .error e => .error e
    | .ok v => if mv.1 = 8 then .error (7, nxP T n q)
      else if tkS T n (nxP T n (nxP T n q)) = 4 ∧ tkV T n (nxP T n (nxP T n q)) = 42 then .ok (nxP T n (nxP T n (nxP T n q)), v, mvAdd mv a v true)
      else .ok (nxP T n (nxP T n q), v, mvAdd mv a v false)
def stpN (T : Nat → Int32) (n f : Nat) : Except (Nat × Nat) (Nat × Nat × MV) → Except (Nat × Nat) (Nat × MV)
  | .error e => .error e
  | .ok r => if tkS T n r.1 = 4 ∧ tkV T n r.1 = 47 then stepsF T n f r.2.1 r.2.2 r.1 else .ok (r.1, r.2.2)
theorem steps_1 (T : Nat → Int32) (n f a : Nat) (mv : MV) (q : Nat) : stepsF T n (f + 1) a mv q = stpN T n f (stpF T n a mv q) := by
  conv => lhs; unfold stepsF
  unfold stpF
  by_cases c1 : ¬ (tkS T n q = 4 ∧ tkV T n q = 47)
  · rw [if_pos c1, if_pos c1]; rfl
  rw [if_neg c1, if_neg c1]
  unfold ptF
  by_cases c2 : tkS T n (nxP T n q) = 3 ∧ tkV T n (nxP T n q) = 2
  · rw [if_pos c2, if_pos c2]
    show (if _ then _ else _) = stpN T n f (if _ then _ else _)
    by_cases c3 : mv.1 = 8
    · rw [if_pos c3, if_pos c3]; rfl
    rw [if_neg c3, if_neg c3]
    by_cases c4 : tkS T n (nxP T n (nxP T n q)) = 4 ∧ tkV T n (nxP T n (nxP T n q)) = 42
    · rw [if_pos c4, if_pos c4]; rfl
    · rw [if_neg c4, if_neg c4]; rfl
  rw [if_neg c2, if_neg c2]
  by_cases c5 : ¬ tkS T n (nxP T n q) = 2
  · rw [if_pos c5, if_pos c5]; rfl
  rw [if_neg c5, if_neg c5]
  by_cases c6 : tkV T n (nxP T n q) < 1 ∨ 24 < tkV T n (nxP T n q)
  · rw [if_pos c6, if_pos c6]; rfl
  rw [if_neg c6, if_neg c6]
  show (if _ then _ else _) = stpN T n f (if _ then _ else _)
  by_cases c3 : mv.1 = 8
  · rw [if_pos c3, if_pos c3]; rfl
  rw [if_neg c3, if_neg c3]
  by_cases c4 : tkS T n (nxP T n (nxP T n q)) = 4 ∧ tkV T n (nxP T n (nxP T n q)) = 42
  · rw [if_pos c4, if_pos c4]; rfl
  · rw [if_neg c4, if_neg c4]; rfl
def movN (T : Nat → Int32) (n o : Nat) : Except (Nat × Nat) (Nat × MV) → Except (Nat × Nat) (Nat × MV)
  | .error e => .error e
  | .ok r => tailF T n o r.1 r.2
theorem move_1 (T : Nat → Int32) (n : Nat) (mv : MV) (p : Nat) : moveF T n mv p = (match ptF T n p 1 25 with | .error e => .error e | .ok v => movN T n mv.1 (stepsF T n (n + 1) v mv (nxP T n p))) := by
  unfold moveF ptF
  by_cases c2 : tkS T n p = 3 ∧ tkV T n p = 1
  · rw [if_pos c2, if_pos c2]
    show _ = movN T n mv.1 (stepsF T n (n + 1) 25 mv (nxP T n p))
    cases stepsF T n (n + 1) 25 mv (nxP T n p) <;> rfl
  rw [if_neg c2, if_neg c2]
  by_cases c5 : ¬ tkS T n p = 2
  · rw [if_pos c5, if_pos c5]
  rw [if_neg c5, if_neg c5]
  by_cases c6 : tkV T n p < 1 ∨ 24 < tkV T n p
  · rw [if_pos c6, if_pos c6]
  rw [if_neg c6, if_neg c6]
  show _ = movN T n mv.1 (stepsF T n (n + 1) (tkN T n p) mv (nxP T n p))
  cases stepsF T n (n + 1) (tkN T n p) mv (nxP T n p) <;> rfl
def adO (I : Nat → Nat → Int32) : Prop := ∃ c, c < 8 ∧ I 106 5 = nI c
def adI (I : Nat → Nat → Int32) : Nat → Nat → Int32 := up2 I 106 5 (I 106 5 + 1)
def adA (A : Nat → Nat → Int32) (c a b s : Int32) : Nat → Nat → Int32 := up1 (up1 (up1 A 107 (upd (A 107) c.toNatClampNeg a)) 108 (upd (A 108) c.toNatClampNeg b)) 109 (upd (A 109) c.toNatClampNeg (vp_nar .boolean s))
def mvC (I A : Nat → Nat → Int32) (mv : MV) : Prop := I 106 5 = nI mv.1 ∧ mv.1 ≤ 8 ∧ ∀ k, k < mv.1 → A 107 k = nI (mv.2.1 k) ∧ mv.2.1 k ≤ 25 ∧ A 108 k = nI (mv.2.2.1 k) ∧ mv.2.2.1 k ≤ 24 ∧ A 109 k = (if mv.2.2.2 k = true then 1 else 0)
theorem mvC_fr {I I' A A' : Nat → Nat → Int32} {mv : MV} (h : mvC I A mv) (e : I' 106 5 = I 106 5) (e1 : ∀ q, 107 ≤ q → q ≤ 109 → A' q = A q) : mvC I' A' mv := by
  refine ⟨e.trans h.1, h.2.1, ?_⟩
  rw [e1 107 (by omega) (by omega), e1 108 (by omega) (by omega), e1 109 (by omega) (by omega)]; exact h.2.2
theorem mvC_add {I A : Nat → Nat → Int32} {mv : MV} {a b : Nat} {s : Bool} {x : Int32} (h : mvC I A mv) (h8 : mv.1 < 8) (ha : a ≤ 25) (hb : b ≤ 24) (hx : x = if s = true then 1 else 0) : mvC (adI I) (adA A (I 106 5) (nI a) (nI b) x) (mvAdd mv a b s) := by
  have e8 : (I 106 5).toNatClampNeg = mv.1 := by rw [h.1, nI_clamp (by omega)]
  have hz : vp_nar .boolean x = x := by
    refine bz_v ?_
    rw [hx]; cases s <;> decide
  unfold adI adA
  rw [e8, hz]
  refine ⟨?_, by show mv.1 + 1 ≤ 8; omega, fun k hk => ?_⟩
  · show I 106 5 + 1 = nI (mv.1 + 1); rw [h.1, nI_1]
  have hk : k < mv.1 + 1 := hk
  have e1 : ∀ {r1 r2 r3 : Nat → Int32}, (up1 (up1 (up1 A 107 r1) 108 r2) 109 r3) 107 = r1 := fun {r1 r2 r3} => rfl
  have e2 : ∀ {r1 r2 r3 : Nat → Int32}, (up1 (up1 (up1 A 107 r1) 108 r2) 109 r3) 108 = r2 := fun {r1 r2 r3} => rfl
  have e3 : ∀ {r1 r2 r3 : Nat → Int32}, (up1 (up1 (up1 A 107 r1) 108 r2) 109 r3) 109 = r3 := fun {r1 r2 r3} => rfl
  rw [e1, e2, e3]
  by_cases hkk : k = mv.1
  · subst hkk; rw [upd_in, upd_in, upd_in]; simp [mvAdd, va_up, ha, hb, hx]
  · rw [upd_out hkk, upd_out hkk, upd_out hkk]; simp only [mvAdd, va_up, if_neg hkk]; exact h.2.2 k (by omega)
theorem ad_fr (I : Nat → Nat → Int32) : FrT I (adI I) := ft_106 _ _ _
theorem ad_A {A : Nat → Nat → Int32} {c a b s : Int32} {q : Nat} (h1 : q ≠ 107) (h2 : q ≠ 108) (h3 : q ≠ 109) : adA A c a b s q = A q := by unfold adA; rw [up1_p h3, up1_p h2, up1_p h1]
theorem ac_ad {I : Nat → Nat → Int32} {T : Nat → Int32} {n p sz : Nat} (h : AtC I T n p sz) : AtC (adI I) T n p sz := ac_fr h (fun q k hk => up2_p (by omega))

theorem r_9_addMove_0 {X : Ctx} (F : Fx X cX9_addMove RX9 4 1 0 0) {Φ : Option Value → HS → List Nat → Prop} (E : Ex X none 0 0 Φ) {P O : Nat → Nat → Option Nat} (hP : laP P) {I A : Nat → Nat → Int32} {J : Nat → Nat → Int64} {pl : List Nat} (hB : inB pl) {x1 x2 x3 : Int32}
    (e_1 : (8 ≤ (I 106 5)) → Φ none (mC P O I A J) pl)
    (o_2 : (¬ (8 ≤ (I 106 5))) → vp_in (I 106 5) 8)
    (o_3 : (¬ (8 ≤ (I 106 5))) → vp_in (I 106 5) 8)
    (o_4 : (¬ (8 ≤ (I 106 5))) → vp_in (I 106 5) 8)
    (e_5 : (¬ (8 ≤ (I 106 5))) → Φ none (mC P O (up2 I 106 5 ((I 106 5) + 1)) (up1 (up1 (up1 A 107 (upd (A 107) (I 106 5).toNatClampNeg x1)) 108 (upd (A 108) (I 106 5).toNatClampNeg x2)) 109 (upd (A 109) (I 106 5).toNatClampNeg (vp_nar .boolean x3))) J) pl) :
    WA X (mC P O I A J) pl 0 0 0 [(0, .ref 106), (1, .int x1), (2, .int x2), (3, .int x3)] [] := by
  refine a_aload_n F 0 dX9_addMove_0 rfl rfl ?_
  refine a_geti F fl_9_91 rfl (hB _ (by decide)) rfl dX9_addMove_1 ?_
  refine a_bipush (v := 8) F dX9_addMove_4 (by decide) ?_
  refine a_icmp_ge (tgt := 49) F dX9_addMove_6 (by decide) (fun (c_1 : 8 ≤ (I 106 5)) => ?_) (fun (c_1 : ¬ (8 ≤ (I 106 5))) => ?_)
  · exact a_vret F E dX9_addMove_49 (Nat.le_refl 0) (Nat.le_refl 0) (e_1 c_1)
  · refine a_aload_n F 0 dX9_addMove_9 rfl rfl ?_
    refine a_getr (b := 107) F fl_9_18 rfl (hB _ (by decide)) rfl ((hP 106 2 (by decide)).trans rfl) dX9_addMove_10 ?_
    refine a_aload_n F 0 dX9_addMove_13 rfl rfl ?_
    refine a_geti F fl_9_91 rfl (hB _ (by decide)) rfl dX9_addMove_14 ?_
    refine a_iload_n F 1 dX9_addMove_17 rfl rfl ?_
    refine a_iast F (hB _ (by decide)) rfl (o_2 c_1) dX9_addMove_18 ?_
    refine a_aload_n F 0 dX9_addMove_19 rfl rfl ?_
    refine a_getr (b := 108) F fl_9_22 rfl (hB _ (by decide)) rfl ((hP 106 3 (by decide)).trans rfl) dX9_addMove_20 ?_
    refine a_aload_n F 0 dX9_addMove_23 rfl rfl ?_
    refine a_geti F fl_9_91 rfl (hB _ (by decide)) rfl dX9_addMove_24 ?_
    refine a_iload_n F 2 dX9_addMove_27 rfl rfl ?_
    refine a_iast F (hB _ (by decide)) rfl (o_3 c_1) dX9_addMove_28 ?_
    refine a_aload_n F 0 dX9_addMove_29 rfl rfl ?_
    refine a_getr (b := 109) F fl_9_25 rfl (hB _ (by decide)) rfl ((hP 106 4 (by decide)).trans rfl) dX9_addMove_30 ?_
    refine a_aload_n F 0 dX9_addMove_33 rfl rfl ?_
    refine a_geti F fl_9_91 rfl (hB _ (by decide)) rfl dX9_addMove_34 ?_
    refine a_iload_n F 3 dX9_addMove_37 rfl rfl ?_
    refine a_zast F (hB _ (by decide)) rfl (o_4 c_1) dX9_addMove_38 ?_
    refine a_aload_n F 0 dX9_addMove_39 rfl rfl ?_
    refine a_dup F dX9_addMove_40 rfl ?_
    refine a_geti F fl_9_91 rfl (hB _ (by decide)) rfl dX9_addMove_41 ?_
    refine a_iconst (v := 1) F dX9_addMove_44 (by decide) ?_
    refine a_iadd F dX9_addMove_45 ?_
    refine a_puti F fl_9_91 rfl rfl rfl rfl (hB _ (by decide)) rfl dX9_addMove_46 ?_
    exact a_vret F E dX9_addMove_49 (Nat.le_refl 0) (Nat.le_refl 0) (e_5 c_1)

set_option maxRecDepth 10000 in
theorem c_9_addMove (l : Launch) {P O : Nat → Nat → Option Nat} (hP : laP P) (I A : Nat → Nat → Int32) (J : Nat → Nat → Int64) {pl : List Nat} (hB : inB pl) (a b s : Int32) (h : adO I) : Con l 1 yX9_addMove cX9_addMove 4 none [.ref 106, .int a, .int b, .int s] (mC P O I A J) pl 0 0 (PC none P O (adI I) (adA A (I 106 5) a b s) J pl) := by
  refine Con.of (by decide) (Nat.le_of_ble_eq_true rfl) (fun X hX9 hn9 F E => ?_)
  obtain ⟨c, hc, e⟩ := h
  have n8 : ¬ (8 : Int32) ≤ I 106 5 := fun z => by rw [e] at z; have := (nI_gen 8 (by omega) (by omega)).mp z; omega
  have v8 : vp_in (I 106 5) 8 := by rw [e]; exact vp_in_nI hc (by omega)
  exact r_9_addMove_0 F E hP hB (fun z => absurd z n8) (fun _ => v8) (fun _ => v8) (fun _ => v8) (fun _ => ⟨rfl, rfl, rfl⟩)

theorem r_9_readPoint_0 {X : Ctx} (F : Fx X cX9_readPoint RX9 5 4 0 0) {Φ : Option Value → HS → List Nat → Prop} (E : Ex X (some .int) 0 0 Φ) {P O : Nat → Nat → Option Nat} (hP : laP P) {I A : Nat → Nat → Int32} {J : Nat → Nat → Int64} {pl : List Nat} (hB : inB pl) {x1 x2 x3 x4 : Int32}
    (o_1 : szO (I 120 1))
    (e_2 : (wdP I (A 121) x1 x2 x3) → Φ (some (.int x4)) (mC P O I A J) pl)
    (e_3 : (¬ (wdP I (A 121) x1 x2 x3)) → (nuP I (1 : Int32) (24 : Int32)) → Φ (some (.int ((nuI I (1 : Int32) (24 : Int32)) 104 6))) (mC P O (nuI I (1 : Int32) (24 : Int32)) A J) pl)
    (e_4 : (¬ (wdP I (A 121) x1 x2 x3)) → (¬ (nuP I (1 : Int32) (24 : Int32))) → Φ (some (.int (-1))) (mC P O (nuI I (1 : Int32) (24 : Int32)) A J) pl) :
    WA X (mC P O I A J) pl 0 0 0 [(0, .ref 106), (1, .int x1), (2, .int x2), (3, .int x3), (4, .int x4)] [] := by
  refine a_aload_n F 0 dX9_readPoint_0 rfl rfl ?_
  refine a_getr (b := 104) F fl_9_29 rfl (hB _ (by decide)) rfl ((hP 106 0 (by decide)).trans rfl) dX9_readPoint_1 ?_
  refine a_iload_n F 1 dX9_readPoint_4 rfl rfl ?_
  refine a_iload_n F 2 dX9_readPoint_5 rfl rfl ?_
  refine a_iload_n F 3 dX9_readPoint_6 rfl rfl ?_
  refine a_callV (b := 104) (As := [.int x1, .int x2, .int x3]) (st := []) (ci := 5) F (c_5_isWord (xl X) hP I A J hB x1 x2 x3 (o_1)) ml_9_107 im_yX5_isWord se_yX5_isWord (by decide) (by decide) rfl (hB _ (by decide)) rfl rfl dX9_readPoint_7 (by decide) (Nat.le_refl 0) (Nat.le_refl 0) (hl_r (hB _ (by decide)) (hl_i (hl_i (hl_i (hl_i hl_nil))))) hs_nil ?_
  rintro _ _ _ ⟨rfl, rfl, rfl⟩ _
  show WA X (mC P O I A J) pl 0 0 10 [(0, .ref 106), (1, .int x1), (2, .int x2), (3, .int x3), (4, .int x4)] [.int (@ite Int32 (wdP I (A 121) x1 x2 x3) (Classical.propDecidable _) 1 0)]
  refine a_ite (fun (c_1 : wdP I (A 121) x1 x2 x3) => ?_) (fun (c_1 : ¬ (wdP I (A 121) x1 x2 x3)) => ?_)
  · refine a_if_eq (tgt := 16) F dX9_readPoint_10 (by decide) (fun (c_2 : (1 : Int32) = 0) => ?_) (fun (c_2 : ¬ ((1 : Int32) = 0)) => ?_)
    · exact absurd c_2 (by decide)
    · refine a_iload F 4 dX9_readPoint_13 rfl ?_
      exact a_iret F E dX9_readPoint_15 (Nat.le_refl 0) (Nat.le_refl 0) (e_2 c_1)
  · refine a_if_eq (tgt := 16) F dX9_readPoint_10 (by decide) (fun (c_3 : (0 : Int32) = 0) => ?_) (fun (c_3 : ¬ ((0 : Int32) = 0)) => ?_)
    · refine a_aload_n F 0 dX9_readPoint_16 rfl rfl ?_
      refine a_getr (b := 104) F fl_9_29 rfl (hB _ (by decide)) rfl ((hP 106 0 (by decide)).trans rfl) dX9_readPoint_17 ?_
      refine a_iconst (v := 1) F dX9_readPoint_20 (by decide) ?_
      refine a_bipush (v := 24) F dX9_readPoint_21 (by decide) ?_
      refine a_callV (b := 104) (As := [.int 1, .int 24]) (st := []) (ci := 5) F (c_5_isNumber (xl X) hP I A J hB (1 : Int32) (24 : Int32)) ml_9_63 im_yX5_isNumber se_yX5_isNumber (by decide) (by decide) rfl (hB _ (by decide)) rfl rfl dX9_readPoint_23 (by decide) (Nat.le_refl 0) (Nat.le_refl 0) (hl_r (hB _ (by decide)) (hl_i (hl_i (hl_i (hl_i hl_nil))))) hs_nil ?_
      rintro _ _ _ ⟨rfl, rfl, rfl⟩ _
      show WA X (mC P O (nuI I (1 : Int32) (24 : Int32)) A J) pl 0 0 26 [(0, .ref 106), (1, .int x1), (2, .int x2), (3, .int x3), (4, .int x4)] [.int (@ite Int32 (nuP I (1 : Int32) (24 : Int32)) (Classical.propDecidable _) 1 0)]
      refine a_ite (fun (c_4 : nuP I (1 : Int32) (24 : Int32)) => ?_) (fun (c_4 : ¬ (nuP I (1 : Int32) (24 : Int32))) => ?_)
      · refine a_if_eq (tgt := 39) F dX9_readPoint_26 (by decide) (fun (c_5 : (1 : Int32) = 0) => ?_) (fun (c_5 : ¬ ((1 : Int32) = 0)) => ?_)
        · exact absurd c_5 (by decide)
        · refine a_aload_n F 0 dX9_readPoint_29 rfl rfl ?_
          refine a_getr (b := 104) F fl_9_29 rfl (hB _ (by decide)) rfl ((hP 106 0 (by decide)).trans rfl) dX9_readPoint_30 ?_
          refine a_geti F fl_9_67 rfl (hB _ (by decide)) rfl dX9_readPoint_33 ?_
          refine a_goto (tgt := 40) F dX9_readPoint_36 (by decide) ?_
          exact a_iret F E dX9_readPoint_40 (Nat.le_refl 0) (Nat.le_refl 0) (e_3 c_1 c_4)
      · refine a_if_eq (tgt := 39) F dX9_readPoint_26 (by decide) (fun (c_6 : (0 : Int32) = 0) => ?_) (fun (c_6 : ¬ ((0 : Int32) = 0)) => ?_)
        · refine a_iconst (v := (-1)) F dX9_readPoint_39 (by decide) ?_
          exact a_iret F E dX9_readPoint_40 (Nat.le_refl 0) (Nat.le_refl 0) (e_4 c_1 c_4)
        · exact absurd c_6 (by decide)
    · exact absurd c_3 (by decide)

set_option maxRecDepth 200000 in
theorem c_9_readPoint (l : Launch) {P O : Nat → Nat → Option Nat} (hP : laP P) (I A : Nat → Nat → Int32) (J : Nat → Nat → Int64) {pl : List Nat} (hB : inB pl) (a b c code : Int32) (n p sz nm : Nat) (h : AtC I (A 121) n p sz) (hw : wdP I (A 121) a b c ↔ tkS (A 121) n p = 3 ∧ tkV (A 121) n p = code) : Con l 4 yX9_readPoint cX9_readPoint 5 (some .int) [.ref 106, .int a, .int b, .int c, .int (nI nm)] (mC P O I A J) pl 0 0 (ptQ P O I A J pl p n nm (ptF (A 121) n p code nm)) := by
  refine Con.of (by decide) (Nat.le_of_ble_eq_true rfl) (fun X hX9 hn9 F E => ?_)
  generalize hT : A 121 = T at h hw
  rw [hT] at E
  refine r_9_readPoint_0 F E hP hB (ac_sz h) (fun z => ?_) (fun z y => ?_) (fun z y => ?_) <;> rw [hT] at z
  · have z1 := hw.mp z
    unfold ptF; rw [if_pos z1]
    exact ⟨rfl, rfl, rfl, Or.inl rfl, ac_lt h (by rw [z1.1]; decide)⟩
  · obtain ⟨s1, s2, s3, s4, s5, s6, s7⟩ := ac_num (lo := 1) (hi := 24) h (by omega) (by omega) y
    unfold ptF; rw [if_neg (fun w => z (hw.mpr w)), if_neg (fun w => w s1), if_neg (show ¬ (tkV T n p < 1 ∨ 24 < tkV T n p) from s2), nu_in y, s6]
    exact ⟨rfl, rfl, rfl, Or.inr ⟨s4, s5⟩, s7⟩
  · obtain ⟨c, -, e1, e2⟩ := ac_non (lo := 1) (hi := 24) h (by omega) y
    rw [show nuI I 1 24 = faI I (nI c) from e1]
    unfold ptF; rw [if_neg (fun w => z (hw.mpr w))]
    rcases e2 with ⟨e2, rfl⟩ | ⟨e2, e3, rfl⟩
    · rw [if_pos e2]; exact ⟨rfl, rfl, rfl, rfl⟩
    · rw [if_neg (fun w => w e2), if_pos (show tkV T n p < 1 ∨ 24 < tkV T n p from e3)]; exact ⟨rfl, rfl, rfl, rfl⟩

def stpQ (P O : Nat → Nat → Option Nat) (I A : Nat → Nat → Int32) (J : Nat → Nat → Int64) (pl : List Nat) (n sz : Nat) (res : Except (Nat × Nat) (Nat × Nat × MV)) : Option Value → HS → List Nat → Prop := fun rv σ' pl' => pl = pl' ∧ ∃ I' A', σ' = mC P O I' A' J ∧ FrT I I' ∧ (∀ q, q ≠ 107 → q ≠ 108 → q ≠ 109 → A' q = A q) ∧
  match res with
  | .error fp => rv = some (.int (-1)) ∧ I' 104 7 = nI fp.1 ∧ I' 104 8 = nI fp.2
  | .ok r => rv = some (.int (nI r.2.1)) ∧ r.2.1 ≤ 24 ∧ AtC I' (A 121) n r.1 sz ∧ I' 104 7 = I 104 7 ∧ I' 104 8 = I 104 8 ∧ mvC I' A' r.2.2

theorem r_9_readStep_0 {X : Ctx} (F : Fx X cX9_readStep RX9 4 8 0 0) {Φ : Option Value → HS → List Nat → Prop} (E : Ex X (some .int) 0 0 Φ) {P O : Nat → Nat → Option Nat} (hP : laP P) {I A : Nat → Nat → Int32} {J : Nat → Nat → Int64} {pl : List Nat} (hB : inB pl) {x1 : Int32}
    (o_1 : okRd I)
    (e_2 : (sgP I (47 : Int32)) → WA X (mC P O (psI I (A 121) (47 : Int32)) A J) pl 0 0 14 [(0, .ref 106), (1, .int x1)] [])
    (e_3 : (¬ (sgP I (47 : Int32))) → Φ (some (.int (-1))) (mC P O (psI I (A 121) (47 : Int32)) A J) pl) :
    WA X (mC P O I A J) pl 0 0 0 [(0, .ref 106), (1, .int x1)] [] := by
  refine a_aload_n F 0 dX9_readStep_0 rfl rfl ?_
  refine a_getr (b := 104) F fl_9_29 rfl (hB _ (by decide)) rfl ((hP 106 0 (by decide)).trans rfl) dX9_readStep_1 ?_
  refine a_bipush (v := 47) F dX9_readStep_4 (by decide) ?_
  refine a_callV (b := 104) (As := [.int 47]) (st := []) (ci := 5) F (c_5_passSign (xl X) hP I A J hB (47 : Int32) (o_1)) ml_9_46 im_yX5_passSign se_yX5_passSign (by decide) (by decide) rfl (hB _ (by decide)) rfl rfl dX9_readStep_6 (by decide) (Nat.le_refl 0) (Nat.le_refl 0) (hl_r (hB _ (by decide)) (hl_i hl_nil)) hs_nil ?_
  rintro _ _ _ ⟨rfl, rfl, rfl⟩ _
  show WA X (mC P O (psI I (A 121) (47 : Int32)) A J) pl 0 0 9 [(0, .ref 106), (1, .int x1)] [.int (@ite Int32 (sgP I (47 : Int32)) (Classical.propDecidable _) 1 0)]
  refine a_ite (fun (c_1 : sgP I (47 : Int32)) => ?_) (fun (c_1 : ¬ (sgP I (47 : Int32))) => ?_)
  · refine a_if_ne (tgt := 14) F dX9_readStep_9 (by decide) (fun (c_2 : ¬ (1 : Int32) = 0) => ?_) (fun (c_2 : (1 : Int32) = 0) => ?_)
    · exact e_2 c_1
    · exact absurd c_2 (by decide)
  · refine a_if_ne (tgt := 14) F dX9_readStep_9 (by decide) (fun (c_3 : ¬ (0 : Int32) = 0) => ?_) (fun (c_3 : (0 : Int32) = 0) => ?_)
    · exact absurd c_3 (by decide)
    · refine a_iconst (v := (-1)) F dX9_readStep_12 (by decide) ?_
      exact a_iret F E dX9_readStep_13 (Nat.le_refl 0) (Nat.le_refl 0) (e_3 c_1)

theorem r_9_readStep_14 {X : Ctx} (F : Fx X cX9_readStep RX9 4 8 0 0) {P O : Nat → Nat → Option Nat} (hP : laP P) {I A : Nat → Nat → Int32} {J : Nat → Nat → Int64} {pl : List Nat} (hB : inB pl) {x1 : Int32}
    (e_1 : WA X (mC P O I A J) pl 0 0 22 [(0, .ref 106), (1, .int x1)] [.int 0, .int 102, .int 102, .int 111, .ref 106]) :
    WA X (mC P O I A J) pl 0 0 14 [(0, .ref 106), (1, .int x1)] [] := by
  refine a_aload_n F 0 dX9_readStep_14 rfl rfl ?_
  refine a_bipush (v := 111) F dX9_readStep_15 (by decide) ?_
  refine a_bipush (v := 102) F dX9_readStep_17 (by decide) ?_
  refine a_bipush (v := 102) F dX9_readStep_19 (by decide) ?_
  refine a_iconst (v := 0) F dX9_readStep_21 (by decide) ?_
  exact e_1

theorem r_9_readStep_26 {X : Ctx} (F : Fx X cX9_readStep RX9 4 8 0 0) {Φ : Option Value → HS → List Nat → Prop} (E : Ex X (some .int) 0 0 Φ) {P O : Nat → Nat → Option Nat} (hP : laP P) {I A : Nat → Nat → Int32} {J : Nat → Nat → Int64} {pl : List Nat} (hB : inB pl) {x1 x2 : Int32}
    (e_1 : (¬ x2 = (-1)) → WA X (mC P O I A J) pl 0 0 33 [(0, .ref 106), (1, .int x1), (2, .int x2)] [])
    (e_2 : (x2 = (-1)) → Φ (some (.int (-1))) (mC P O I A J) pl) :
    WA X (mC P O I A J) pl 0 0 26 [(0, .ref 106), (1, .int x1), (2, .int x2)] [] := by
  refine a_iload_n F 2 dX9_readStep_26 rfl rfl ?_
  refine a_iconst (v := (-1)) F dX9_readStep_27 (by decide) ?_
  refine a_icmp_ne (tgt := 33) F dX9_readStep_28 (by decide) (fun (c_4 : ¬ x2 = (-1)) => ?_) (fun (c_4 : x2 = (-1)) => ?_)
  · exact e_1 c_4
  · refine a_iconst (v := (-1)) F dX9_readStep_31 (by decide) ?_
    exact a_iret F E dX9_readStep_32 (Nat.le_refl 0) (Nat.le_refl 0) (e_2 c_4)

theorem r_9_readStep_33 {X : Ctx} (F : Fx X cX9_readStep RX9 4 8 0 0) {Φ : Option Value → HS → List Nat → Prop} (E : Ex X (some .int) 0 0 Φ) {P O : Nat → Nat → Option Nat} (hP : laP P) {I A : Nat → Nat → Int32} {J : Nat → Nat → Int64} {pl : List Nat} (hB : inB pl) {x1 x2 : Int32}
    (e_1 : ((I 106 5) < 8) → WA X (mC P O I A J) pl 0 0 54 [(0, .ref 106), (1, .int x1), (2, .int x2)] [])
    (e_2 : (¬ ((I 106 5) < 8)) → Φ (some (.int (-1))) (mC P O (faI I (7 : Int32)) A J) pl) :
    WA X (mC P O I A J) pl 0 0 33 [(0, .ref 106), (1, .int x1), (2, .int x2)] [] := by
  refine a_aload_n F 0 dX9_readStep_33 rfl rfl ?_
  refine a_geti F fl_9_91 rfl (hB _ (by decide)) rfl dX9_readStep_34 ?_
  refine a_bipush (v := 8) F dX9_readStep_37 (by decide) ?_
  refine a_icmp_lt (tgt := 54) F dX9_readStep_39 (by decide) (fun (c_5 : (I 106 5) < 8) => ?_) (fun (c_5 : ¬ ((I 106 5) < 8)) => ?_)
  · exact e_1 c_5
  · refine a_aload_n F 0 dX9_readStep_42 rfl rfl ?_
    refine a_getr (b := 104) F fl_9_29 rfl (hB _ (by decide)) rfl ((hP 106 0 (by decide)).trans rfl) dX9_readStep_43 ?_
    refine a_bipush (v := 7) F dX9_readStep_46 (by decide) ?_
    refine a_callV (b := 104) (As := [.int 7]) (st := []) (ci := 5) F (c_5_fail (xl X) hP I A J hB (7 : Int32)) ml_9_75 im_yX5_fail se_yX5_fail (by decide) (by decide) rfl (hB _ (by decide)) rfl rfl dX9_readStep_48 (by decide) (Nat.le_refl 0) (Nat.le_refl 0) (hl_r (hB _ (by decide)) (hl_i (hl_i hl_nil))) hs_nil ?_
    rintro _ _ _ ⟨rfl, rfl, rfl⟩ _
    show WA X (mC P O (faI I (7 : Int32)) A J) pl 0 0 51 [(0, .ref 106), (1, .int x1), (2, .int x2)] [.int 0]
    refine a_pop F dX9_readStep_51 rfl ?_
    refine a_iconst (v := (-1)) F dX9_readStep_52 (by decide) ?_
    exact a_iret F E dX9_readStep_53 (Nat.le_refl 0) (Nat.le_refl 0) (e_2 c_5)

theorem r_9_readStep_54 {X : Ctx} (F : Fx X cX9_readStep RX9 4 8 0 0) {P O : Nat → Nat → Option Nat} (hP : laP P) {I A : Nat → Nat → Int32} {J : Nat → Nat → Int64} {pl : List Nat} (hB : inB pl) {x1 x2 : Int32}
    (o_1 : okRd I)
    (e_2 : WA X (mC P O (rgI I (A 121)) A J) pl 0 0 61 [(0, .ref 106), (1, .int x1), (2, .int x2)] []) :
    WA X (mC P O I A J) pl 0 0 54 [(0, .ref 106), (1, .int x1), (2, .int x2)] [] := by
  refine a_aload_n F 0 dX9_readStep_54 rfl rfl ?_
  refine a_getr (b := 104) F fl_9_29 rfl (hB _ (by decide)) rfl ((hP 106 0 (by decide)).trans rfl) dX9_readStep_55 ?_
  refine a_callV (b := 104) (As := []) (st := []) (ci := 5) F (c_5_readI (xl X) hP I A J hB (o_1)) ml_9_60 im_yX5_read se_yX5_read (by decide) (by decide) rfl (hB _ (by decide)) rfl rfl dX9_readStep_58 (by decide) (Nat.le_refl 0) (Nat.le_refl 0) (hl_r (hB _ (by decide)) (hl_i (hl_i hl_nil))) hs_nil ?_
  rintro _ _ _ ⟨rfl, rfl, rfl⟩ _
  show WA X (mC P O (rgI I (A 121)) A J) pl 0 0 61 [(0, .ref 106), (1, .int x1), (2, .int x2)] []
  exact e_2

theorem r_9_readStep_61 {X : Ctx} (F : Fx X cX9_readStep RX9 4 8 0 0) {P O : Nat → Nat → Option Nat} (hP : laP P) {I A : Nat → Nat → Int32} {J : Nat → Nat → Int64} {pl : List Nat} (hB : inB pl) {x1 x2 : Int32}
    (e_1 : (sgP I (42 : Int32)) → WA X (mC P O I A J) pl 0 0 71 [(0, .ref 106), (1, .int x1), (2, .int x2), (3, .int 1)] [])
    (e_2 : (¬ (sgP I (42 : Int32))) → WA X (mC P O I A J) pl 0 0 71 [(0, .ref 106), (1, .int x1), (2, .int x2), (3, .int 0)] []) :
    WA X (mC P O I A J) pl 0 0 61 [(0, .ref 106), (1, .int x1), (2, .int x2)] [] := by
  refine a_aload_n F 0 dX9_readStep_61 rfl rfl ?_
  refine a_getr (b := 104) F fl_9_29 rfl (hB _ (by decide)) rfl ((hP 106 0 (by decide)).trans rfl) dX9_readStep_62 ?_
  refine a_bipush (v := 42) F dX9_readStep_65 (by decide) ?_
  refine a_callV (b := 104) (As := [.int 42]) (st := []) (ci := 5) F (c_5_isSign (xl X) hP I A J hB (42 : Int32)) ml_9_54 im_yX5_isSign se_yX5_isSign (by decide) (by decide) rfl (hB _ (by decide)) rfl rfl dX9_readStep_67 (by decide) (Nat.le_refl 0) (Nat.le_refl 0) (hl_r (hB _ (by decide)) (hl_i (hl_i hl_nil))) hs_nil ?_
  rintro _ _ _ ⟨rfl, rfl, rfl⟩ _
  show WA X (mC P O I A J) pl 0 0 70 [(0, .ref 106), (1, .int x1), (2, .int x2)] [.int (@ite Int32 (sgP I (42 : Int32)) (Classical.propDecidable _) 1 0)]
  refine a_ite (fun (c_6 : sgP I (42 : Int32)) => ?_) (fun (c_6 : ¬ (sgP I (42 : Int32))) => ?_)
  · refine a_istore_n F dX9_readStep_70 rfl (by decide) rfl ?_
    refine a_sub [1, 2, 3, 0] rfl ?_
    exact e_1 c_6
  · refine a_istore_n F dX9_readStep_70 rfl (by decide) rfl ?_
    refine a_sub [1, 2, 3, 0] rfl ?_
    exact e_2 c_6

theorem r_9_readStep_71 {X : Ctx} (F : Fx X cX9_readStep RX9 4 8 0 0) {P O : Nat → Nat → Option Nat} (hP : laP P) {I A : Nat → Nat → Int32} {J : Nat → Nat → Int64} {pl : List Nat} (hB : inB pl) {x1 x2 x3 : Int32}
    (e_1 : (x3 = 0) → WA X (mC P O I A J) pl 0 0 82 [(0, .ref 106), (1, .int x1), (2, .int x2), (3, .int x3)] [])
    (o_2 : (¬ (x3 = 0)) → okRd I)
    (e_3 : (¬ (x3 = 0)) → WA X (mC P O (rgI I (A 121)) A J) pl 0 0 82 [(0, .ref 106), (1, .int x1), (2, .int x2), (3, .int x3)] []) :
    WA X (mC P O I A J) pl 0 0 71 [(0, .ref 106), (1, .int x1), (2, .int x2), (3, .int x3)] [] := by
  refine a_iload_n F 3 dX9_readStep_71 rfl rfl ?_
  refine a_if_eq (tgt := 82) F dX9_readStep_72 (by decide) (fun (c_7 : x3 = 0) => ?_) (fun (c_7 : ¬ (x3 = 0)) => ?_)
  · exact e_1 c_7
  · refine a_aload_n F 0 dX9_readStep_75 rfl rfl ?_
    refine a_getr (b := 104) F fl_9_29 rfl (hB _ (by decide)) rfl ((hP 106 0 (by decide)).trans rfl) dX9_readStep_76 ?_
    refine a_callV (b := 104) (As := []) (st := []) (ci := 5) F (c_5_readI (xl X) hP I A J hB (o_2 c_7)) ml_9_60 im_yX5_read se_yX5_read (by decide) (by decide) rfl (hB _ (by decide)) rfl rfl dX9_readStep_79 (by decide) (Nat.le_refl 0) (Nat.le_refl 0) (hl_r (hB _ (by decide)) (hl_i (hl_i (hl_i hl_nil)))) hs_nil ?_
    rintro _ _ _ ⟨rfl, rfl, rfl⟩ _
    show WA X (mC P O (rgI I (A 121)) A J) pl 0 0 82 [(0, .ref 106), (1, .int x1), (2, .int x2), (3, .int x3)] []
    exact e_3 c_7

theorem r_9_readStep_82 {X : Ctx} (F : Fx X cX9_readStep RX9 4 8 0 0) {Φ : Option Value → HS → List Nat → Prop} (E : Ex X (some .int) 0 0 Φ) {P O : Nat → Nat → Option Nat} (hP : laP P) {I A : Nat → Nat → Int32} {J : Nat → Nat → Int64} {pl : List Nat} (hB : inB pl) {x1 x2 x3 : Int32}
    (o_1 : adO I)
    (e_2 : Φ (some (.int x2)) (mC P O (adI I) (adA A (I 106 5) x1 x2 x3) J) pl) :
    WA X (mC P O I A J) pl 0 0 82 [(0, .ref 106), (1, .int x1), (2, .int x2), (3, .int x3)] [] := by
  refine a_aload_n F 0 dX9_readStep_82 rfl rfl ?_
  refine a_iload_n F 1 dX9_readStep_83 rfl rfl ?_
  refine a_iload_n F 2 dX9_readStep_84 rfl rfl ?_
  refine a_iload_n F 3 dX9_readStep_85 rfl rfl ?_
  refine a_callV (b := 106) (As := [.int x1, .int x2, .int x3]) (st := []) (ci := 9) F (c_9_addMove (xl X) hP I A J hB x1 x2 x3 (o_1)) ml_9_111 im_yX9_addMove se_yX9_addMove (by decide) (by decide) rfl (hB _ (by decide)) rfl rfl dX9_readStep_86 (by decide) (Nat.le_refl 0) (Nat.le_refl 0) (hl_r (hB _ (by decide)) (hl_i (hl_i (hl_i hl_nil)))) hs_nil ?_
  rintro _ _ _ ⟨rfl, rfl, rfl⟩ _
  show WA X (mC P O (adI I) (adA A (I 106 5) x1 x2 x3) J) pl 0 0 89 [(0, .ref 106), (1, .int x1), (2, .int x2), (3, .int x3)] []
  refine a_iload_n F 2 dX9_readStep_89 rfl rfl ?_
  exact a_iret F E dX9_readStep_90 (Nat.le_refl 0) (Nat.le_refl 0) (e_2)

theorem r_9_readStep_25 {X : Ctx} (F : Fx X cX9_readStep RX9 4 8 0 0) {P O : Nat → Nat → Option Nat} (hP : laP P) {I A : Nat → Nat → Int32} {J : Nat → Nat → Int64} {pl : List Nat} (hB : inB pl) {x1 b1 : Int32}
    (e_1 : WA X (mC P O I A J) pl 0 0 26 [(0, .ref 106), (1, .int x1), (2, .int b1)] []) :
    WA X (mC P O I A J) pl 0 0 25 [(0, .ref 106), (1, .int x1)] [.int b1] := by
  refine a_istore_n F dX9_readStep_25 rfl (by decide) rfl ?_
  refine a_sub [1, 2, 0] rfl ?_
  exact e_1

set_option maxRecDepth 200000 in
theorem c_9_readStep (l : Launch) {P O : Nat → Nat → Option Nat} (hP : laP P) (I A : Nat → Nat → Int32) (J : Nat → Nat → Int64) {pl : List Nat} (hB : inB pl) (n a q sz : Nat) (mv : MV) (ha : a ≤ 25) (h : AtC I (A 121) n q sz) (hv : mvC I A mv) : Con l 8 yX9_readStep cX9_readStep 4 (some .int) [.ref 106, .int (nI a)] (mC P O I A J) pl 0 0 (stpQ P O I A J pl n sz (stpF (A 121) n a mv q)) := by
  refine Con.of (by decide) (Nat.le_of_ble_eq_true rfl) (fun X hX9 hn9 F E => ?_)
  generalize hT : A 121 = T at h
  rw [hT] at E
  have sg := ac_sg h 47
  have er : ∀ {I1 : Nat → Nat → Int32} {c q1 : Nat}, FrT I I1 → I1 104 3 = nI q1 → stpF T n a mv q = .error (c, q1) → stpQ P O I A J pl n sz (stpF T n a mv q) (some (.int (-1))) (mC P O (faI I1 (nI c)) A J) pl := fun {I1 c q1} hf h3 he => by
    rw [he]
    exact ⟨rfl, _, _, rfl, hf.tr (FrT.of (fr_fa _ _)), fun _ _ _ _ => rfl, rfl, rfl, h3⟩
  refine r_9_readStep_0 F E hP hB (ac_rd h) (fun z => ?_) (fun z => ?_)
  rotate_left
  · rw [ps_no z]
    refine er (c := 1) (FrT.rf I) h.2.2.2.2.2.2.1 ?_
    unfold stpF; rw [if_pos (fun y => z (sg.mpr y))]
  rw [ps_in z, hT]
  have sz1 := sg.mp z
  have hl := ac_lt h (by rw [sz1.1]; decide)
  have h2 := ac_nx h hl
  have f2 : FrT I (rgI I T) := FrT.of (fr_rg I T)
  have hv2 : mvC (rgI I T) A mv := mvC_fr hv (rg_106 _ _) (fun _ _ _ => rfl)
  have e7 : rgI I T 104 7 = I 104 7 := (rg_78 _ _).1
  have e8 : rgI I T 104 8 = I 104 8 := (rg_78 _ _).2
  generalize rgI I T = I2 at h2 f2 hv2 e7 e8
  have e0 : stpF T n a mv q = (match ptF T n (nxP T n q) 2 0 with
    | .error e => .error e
    | .ok v => if mv.1 = 8 then .error (7, nxP T n q)
      else if tkS T n (nxP T n (nxP T n q)) = 4 ∧ tkV T n (nxP T n (nxP T n q)) = 42 then .ok (nxP T n (nxP T n (nxP T n q)), v, mvAdd mv a v true)
      else .ok (nxP T n (nxP T n q), v, mvAdd mv a v false)) := by
    unfold stpF; rw [if_neg (fun y => y sz1)]
  refine r_9_readStep_14 F hP hB ?_
  refine a_callV (b := 106) (As := [.int 111, .int 102, .int 102, .int 0]) (st := []) (ci := 9) F (c_9_readPoint (xl X) hP I2 A J hB 111 102 102 2 n (nxP T n q) sz 0 (by rw [hT]; exact h2) (by rw [hT]; exact (ac_wd h2).2)) ml_9_96 im_yX9_readPoint se_yX9_readPoint (by decide) (by decide) rfl (hB _ (by decide)) rfl rfl dX9_readStep_22 (by decide) (Nat.le_refl 0) (Nat.le_refl 0) (hl_r (hB _ (by decide)) (hl_i hl_nil)) hs_nil ?_
  rintro rv σ' pl' ⟨rfl, hcase⟩ _
  rw [hT] at hcase
  cases hp : ptF T n (nxP T n q) 2 0 with
  | error e =>
    rw [hp] at hcase e0
    obtain ⟨rfl, rfl, h9⟩ := hcase
    refine r_9_readStep_25 F hP hB (r_9_readStep_26 F E hP hB (fun z => absurd rfl z) (fun _ => er f2 ?_ e0))
    rw [h9]; exact h2.2.2.2.2.2.2.1
  | ok v =>
    rw [hp] at hcase e0
    obtain ⟨rfl, rfl, hv9, hl2⟩ := hcase
    have v24 : v ≤ 24 := by omega
    refine r_9_readStep_25 F hP hB (r_9_readStep_26 F E hP hB (fun _ => ?_) (fun z => absurd z (nI_nm (by omega))))
    have c8 : I2 106 5 < 8 ↔ ¬ mv.1 = 8 := by
      rw [hv2.1]; have := hv2.2.1
      rw [show nI mv.1 < 8 ↔ mv.1 < 8 from nI_ltn 8 (by omega) (by omega)]; omega
    refine r_9_readStep_33 F E hP hB (fun y => ?_) (fun y => er (c := 7) f2 h2.2.2.2.2.2.2.1 (e0.trans (if_pos (Decidable.of_not_not (fun w => y (c8.mpr w))))))
    have n8 := c8.mp y
    have m8 : mv.1 < 8 := by have := hv2.2.1; omega
    have e1 : stpF T n a mv q = (if tkS T n (nxP T n (nxP T n q)) = 4 ∧ tkV T n (nxP T n (nxP T n q)) = 42 then .ok (nxP T n (nxP T n (nxP T n q)), v, mvAdd mv a v true) else .ok (nxP T n (nxP T n q), v, mvAdd mv a v false)) := e0.trans (if_neg n8)
    refine r_9_readStep_54 F hP hB (ac_rd h2) ?_
    rw [hT]
    have h3 := ac_nx h2 hl2
    have f3 := f2.tr (FrT.of (fr_rg I2 T))
    have hv3 : mvC (rgI I2 T) A mv := mvC_fr hv2 (rg_106 _ _) (fun _ _ _ => rfl)
    have e73 : rgI I2 T 104 7 = I 104 7 := (rg_78 _ _).1.trans e7
    have e83 : rgI I2 T 104 8 = I 104 8 := (rg_78 _ _).2.trans e8
    generalize rgI I2 T = I3 at h3 f3 hv3 e73 e83
    have sg3 := ac_sg h3 42
    have fin : ∀ {I4 : Nat → Nat → Int32} {x : Int32} {s : Bool} {q4 : Nat}, x = (if s = true then 1 else 0) → AtC I4 T n q4 sz → FrT I I4 → mvC I4 A mv → I4 104 7 = I 104 7 → I4 104 8 = I 104 8 → stpF T n a mv q = .ok (q4, v, mvAdd mv a v s) → WA X (mC P O I4 A J) pl 0 0 82 [(0, .ref 106), (1, .int (nI a)), (2, .int (nI v)), (3, .int x)] [] := fun {I4 x s q4} hx h4 f4 hv4 g7 g8 e9 => by
      refine r_9_readStep_82 F E hP hB ⟨mv.1, m8, hv4.1⟩ ?_
      rw [e9]
      exact ⟨rfl, _, _, rfl, f4.tr (ad_fr _), fun q a b c => ad_A a b c, rfl, v24, by rw [hT]; exact ac_ad h4, (up2_p (by decide)).trans g7, (up2_p (by decide)).trans g8, mvC_add hv4 m8 ha v24 hx⟩
    refine r_9_readStep_61 F hP hB (fun w => ?_) (fun w => ?_)
    · have w1 := sg3.mp w
      refine r_9_readStep_71 F hP hB (fun u => absurd u (by decide)) (fun _ => ac_rd h3) (fun _ => ?_)
      rw [hT]
      exact fin (s := true) rfl (ac_nx h3 (ac_lt h3 (by rw [w1.1]; decide))) (f3.tr (FrT.of (fr_rg I3 T))) (mvC_fr hv3 (rg_106 _ _) (fun _ _ _ => rfl)) ((rg_78 _ _).1.trans e73) ((rg_78 _ _).2.trans e83) (e1.trans (if_pos w1))
    · refine r_9_readStep_71 F hP hB (fun _ => ?_) (fun u => absurd rfl u) (fun u => absurd rfl u)
      exact fin (s := false) rfl h3 f3 hv3 e73 e83 (e1.trans (if_neg (fun y => w (sg3.mpr y))))
