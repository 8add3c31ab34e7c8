theorem r_J7_fill_53178_0 {X : Ctx} (F : Fx X cJ7_fill_53178 RJ7 4 1 0 0) {P O : Nat → Nat → Option Nat} (hP : laP P) {I A : Nat → Nat → Int32} {J : Nat → Nat → Int64} {pl : List Nat} (hB : inB pl) {x1 : Int32} {q0 : Nat} (hk_q0 : kC q0 = 13) (hp_q0 : q0 ∈ pl)
    (e_1 : WA X (mC P O I A J) pl 0 0 5 [(0, .ref q0), (1, .int x1), (2, .int 0), (3, .int (Int32.ofNat (nC q0)))] []) :
    WA X (mC P O I A J) pl 0 0 0 [(0, .ref q0), (1, .int x1)] [] := by
  refine a_iconst (v := 0) F dJ7_fill_53178_0 (by decide) ?_
  refine a_istore_n F dJ7_fill_53178_1 rfl (by decide) rfl ?_
  refine a_aload_n F 1 dJ7_fill_53178_2 rfl rfl ?_
  refine a_alen (v := Int32.ofNat (nC q0)) F (hp_q0) hk_q0 (by decide) (by decide) rfl dJ7_fill_53178_3 ?_
  refine a_istore_n F dJ7_fill_53178_4 rfl (by decide) rfl ?_
  refine a_sub [2, 3, 1, 0] rfl ?_
  exact e_1

theorem r_J7_fill_53178_5 {X : Ctx} (F : Fx X cJ7_fill_53178 RJ7 4 1 0 0) {Φ : Option Value → HS → List Nat → Prop} (E : Ex X none 0 0 Φ) {P O : Nat → Nat → Option Nat} (hP : laP P) {I A : Nat → Nat → Int32} {J : Nat → Nat → Int64} {pl : List Nat} (hB : inB pl) {x1 x2 x3 : Int32} {q0 : Nat} (hk_q0 : kC q0 = 13) (hp_q0 : q0 ∈ pl)
    (e_1 : (x3 ≤ x2) → Φ none (mC P O I A J) pl)
    (o_2 : (¬ (x3 ≤ x2)) → vp_in x2 (nC q0))
    (e_3 : (¬ (x3 ≤ x2)) → WA X (mC P O I (up1 A q0 (upd (A q0) x2.toNatClampNeg x1)) J) pl 0 0 5 [(0, .ref q0), (1, .int x1), (2, .int (x2 + 1)), (3, .int x3)] []) :
    WA X (mC P O I A J) pl 0 0 5 [(0, .ref q0), (1, .int x1), (2, .int x2), (3, .int x3)] [] := by
  refine a_iload_n F 2 dJ7_fill_53178_5 rfl rfl ?_
  refine a_iload_n F 3 dJ7_fill_53178_6 rfl rfl ?_
  refine a_icmp_ge (tgt := 20) F dJ7_fill_53178_7 (by decide) (fun (c_1 : x3 ≤ x2) => ?_) (fun (c_1 : ¬ (x3 ≤ x2)) => ?_)
  · exact a_vret F E dJ7_fill_53178_20 (Nat.le_refl 0) (Nat.le_refl 0) (e_1 c_1)
  · refine a_aload_n F 0 dJ7_fill_53178_10 rfl rfl ?_
    refine a_iload_n F 2 dJ7_fill_53178_11 rfl rfl ?_
    refine a_iload_n F 1 dJ7_fill_53178_12 rfl rfl ?_
    refine a_iast F (hp_q0) hk_q0 (o_2 c_1) dJ7_fill_53178_13 ?_
    refine a_iinc (v := x2 + 1) F 2 dJ7_fill_53178_14 rfl rfl (by decide) rfl ?_
    refine a_goto (tgt := 5) F dJ7_fill_53178_17 (by decide) ?_
    refine a_sub [1, 2, 0, 3] rfl ?_
    exact e_3 c_1

set_option maxRecDepth 10000 in
theorem c_J7_fill_53178 (l : Launch) {P O : Nat → Nat → Option Nat} (hP : laP P) (I A : Nat → Nat → Int32) (J : Nat → Nat → Int64) {pl : List Nat} (hB : inB pl) (q0 : Nat) (hk_q0 : kC q0 = 13) (hp_q0 : q0 ∈ pl) (v : Int32) (hn : nC q0 ≤ 5000) : Con l 1 yJ7_fill_53178 cJ7_fill_53178 4 none [.ref q0, .int v] (mC P O I A J) pl 0 0 (PC none P O I (up1 A q0 (fillF (A q0) (nC q0) (fun _ => v))) J pl) := by
  refine Con.of (by decide) (Nat.le_of_ble_eq_true rfl) (fun X hX9 hn9 F E => ?_)
  have lp : ∀ f k, k + f = nC q0 → WA X (mC P O I (up1 A q0 (fillF (A q0) k (fun _ => v))) J) pl 0 0 5 [(0, .ref q0), (1, .int v), (2, .int (nI k)), (3, .int (Int32.ofNat (nC q0)))] [] := by
    intro f
    induction f with
    | zero =>
      intro k hk
      obtain rfl : k = nC q0 := by omega
      have h : Int32.ofNat (nC q0) ≤ nI (nC q0) := (nI_leI (a := nC q0) (b := nC q0) (by omega) (by omega)).mpr (Nat.le_refl _)
      exact r_J7_fill_53178_5 F E hP hB hk_q0 hp_q0 (fun _ => ⟨rfl, rfl, rfl⟩) (fun z => absurd h z) (fun z => absurd h z)
    | succ f ih =>
      intro k hk
      have h : ¬ Int32.ofNat (nC q0) ≤ nI k := fun z => by have := (nI_leI (a := nC q0) (b := k) (by omega) (by omega)).mp z; omega
      refine r_J7_fill_53178_5 F E hP hB hk_q0 hp_q0 (fun z => absurd z h) (fun _ => vp_in_nI (by omega) (by omega)) (fun _ => ?_)
      rw [up1_up1, up1_s, nI_clamp (by omega), nI_1, show upd (fillF (A q0) k (fun _ => v)) k v = fillF (A q0) (k + 1) (fun _ => v) by
        funext j; simp only [fillF, upd]
        by_cases c : j = k
        · rw [if_pos c, if_pos (by omega)]
        · rw [if_neg c]
          by_cases c2 : j < k
          · rw [if_pos c2, if_pos (by omega)]
          · rw [if_neg c2, if_neg (by omega)]]
      exact ih (k + 1) (by omega)
  have := lp (nC q0) 0 (Nat.zero_add _)
  rw [show fillF (A q0) 0 (fun _ => v) = A q0 by funext j; unfold fillF; rw [if_neg (by omega)], up1_id] at this
  exact r_J7_fill_53178_0 F hP hB hk_q0 hp_q0 this

theorem r_J7_fill_d0a16_0 {X : Ctx} (F : Fx X cJ7_fill_d0a16 RJ7 5 1 0 0) {P O : Nat → Nat → Option Nat} (hP : laP P) {I A : Nat → Nat → Int32} {J : Nat → Nat → Int64} {pl : List Nat} (hB : inB pl) {y1 : Int64} {q0 : Nat} (hk_q0 : kC q0 = 14) (hp_q0 : q0 ∈ pl)
    (e_1 : WA X (mC P O I A J) pl 0 0 6 [(0, .ref q0), (1, .long y1), (3, .int 0), (4, .int (Int32.ofNat (nC q0)))] []) :
    WA X (mC P O I A J) pl 0 0 0 [(0, .ref q0), (1, .long y1)] [] := by
  refine a_iconst (v := 0) F dJ7_fill_d0a16_0 (by decide) ?_
  refine a_istore_n F dJ7_fill_d0a16_1 rfl (by decide) rfl ?_
  refine a_aload_n F 1 dJ7_fill_d0a16_2 rfl rfl ?_
  refine a_alen (v := Int32.ofNat (nC q0)) F (hp_q0) hk_q0 (by decide) (by decide) rfl dJ7_fill_d0a16_3 ?_
  refine a_istore F dJ7_fill_d0a16_4 (by decide) rfl ?_
  refine a_sub [2, 3, 1, 0] rfl ?_
  exact e_1

theorem r_J7_fill_d0a16_6 {X : Ctx} (F : Fx X cJ7_fill_d0a16 RJ7 5 1 0 0) {Φ : Option Value → HS → List Nat → Prop} (E : Ex X none 0 0 Φ) {P O : Nat → Nat → Option Nat} (hP : laP P) {I A : Nat → Nat → Int32} {J : Nat → Nat → Int64} {pl : List Nat} (hB : inB pl) {x3 x4 : Int32} {y1 : Int64} {q0 : Nat} (hk_q0 : kC q0 = 14) (hp_q0 : q0 ∈ pl)
    (e_1 : (x4 ≤ x3) → Φ none (mC P O I A J) pl)
    (o_2 : (¬ (x4 ≤ x3)) → vp_in x3 (nC q0))
    (e_3 : (¬ (x4 ≤ x3)) → WA X (mC P O I A (up1 J q0 (vp_updL (J q0) x3.toNatClampNeg y1))) pl 0 0 6 [(0, .ref q0), (1, .long y1), (3, .int (x3 + 1)), (4, .int x4)] []) :
    WA X (mC P O I A J) pl 0 0 6 [(0, .ref q0), (1, .long y1), (3, .int x3), (4, .int x4)] [] := by
  refine a_iload_n F 2 dJ7_fill_d0a16_6 rfl rfl ?_
  refine a_iload F 3 dJ7_fill_d0a16_7 rfl ?_
  refine a_icmp_ge (tgt := 22) F dJ7_fill_d0a16_9 (by decide) (fun (c_1 : x4 ≤ x3) => ?_) (fun (c_1 : ¬ (x4 ≤ x3)) => ?_)
  · exact a_vret F E dJ7_fill_d0a16_22 (Nat.le_refl 0) (Nat.le_refl 0) (e_1 c_1)
  · refine a_aload_n F 0 dJ7_fill_d0a16_12 rfl rfl ?_
    refine a_iload_n F 2 dJ7_fill_d0a16_13 rfl rfl ?_
    refine a_lload_n F 1 dJ7_fill_d0a16_14 rfl rfl ?_
    refine a_last F (hp_q0) hk_q0 (o_2 c_1) dJ7_fill_d0a16_15 ?_
    refine a_iinc (v := x3 + 1) F 2 dJ7_fill_d0a16_16 rfl rfl (by decide) rfl ?_
    refine a_goto (tgt := 6) F dJ7_fill_d0a16_19 (by decide) ?_
    refine a_sub [1, 2, 0, 3] rfl ?_
    exact e_3 c_1

set_option maxRecDepth 10000 in
theorem c_J7_fill_d0a16 (l : Launch) {P O : Nat → Nat → Option Nat} (hP : laP P) (I A : Nat → Nat → Int32) (J : Nat → Nat → Int64) {pl : List Nat} (hB : inB pl) (q0 : Nat) (hk_q0 : kC q0 = 14) (hp_q0 : q0 ∈ pl) (v : Int64) (hn : nC q0 ≤ 5000) : Con l 1 yJ7_fill_d0a16 cJ7_fill_d0a16 5 none [.ref q0, .long v] (mC P O I A J) pl 0 0 (PC none P O I A (up1 J q0 (fillF (J q0) (nC q0) (fun _ => v))) pl) := by
  refine Con.of (by decide) (Nat.le_of_ble_eq_true rfl) (fun X hX9 hn9 F E => ?_)
  have lp : ∀ f k, k + f = nC q0 → WA X (mC P O I A (up1 J q0 (fillF (J q0) k (fun _ => v)))) pl 0 0 6 [(0, .ref q0), (1, .long v), (3, .int (nI k)), (4, .int (Int32.ofNat (nC q0)))] [] := by
    intro f
    induction f with
    | zero =>
      intro k hk
      obtain rfl : k = nC q0 := by omega
      have h : Int32.ofNat (nC q0) ≤ nI (nC q0) := (nI_leI (a := nC q0) (b := nC q0) (by omega) (by omega)).mpr (Nat.le_refl _)
      exact r_J7_fill_d0a16_6 F E hP hB hk_q0 hp_q0 (fun _ => ⟨rfl, rfl, rfl⟩) (fun z => absurd h z) (fun z => absurd h z)
    | succ f ih =>
      intro k hk
      have h : ¬ Int32.ofNat (nC q0) ≤ nI k := fun z => by have := (nI_leI (a := nC q0) (b := k) (by omega) (by omega)).mp z; omega
      refine r_J7_fill_d0a16_6 F E hP hB hk_q0 hp_q0 (fun z => absurd z h) (fun _ => vp_in_nI (by omega) (by omega)) (fun _ => ?_)
      rw [up1_up1, up1_s, nI_clamp (by omega), nI_1, show vp_updL (fillF (J q0) k (fun _ => v)) k v = fillF (J q0) (k + 1) (fun _ => v) by
        funext j; simp only [fillF, vp_updL]
        by_cases c : j = k
        · rw [if_pos c, if_pos (by omega)]
        · rw [if_neg c]
          by_cases c2 : j < k
          · rw [if_pos c2, if_pos (by omega)]
          · rw [if_neg c2, if_neg (by omega)]]
      exact ih (k + 1) (by omega)
  have := lp (nC q0) 0 (Nat.zero_add _)
  rw [show fillF (J q0) 0 (fun _ => v) = J q0 by funext j; unfold fillF; rw [if_neg (by omega)], up1_id] at this
  exact r_J7_fill_d0a16_0 F hP hB hk_q0 hp_q0 this

theorem r_0_copyFrom_0 {X : Ctx} (F : Fx X cX0_copyFrom RX0 2 1 0 0) {Φ : Option Value → HS → List Nat → Prop} (E : Ex X none 0 0 Φ) {P O : Nat → Nat → Option Nat} (hP : laP P) {I A : Nat → Nat → Int32} {J : Nat → Nat → Int64} {pl : List Nat} (hB : inB pl) {p : Nat} (hk_p : kC p = 0) (hp_p : p ∈ pl) (hq_p : p + 1 ∈ pl) {q1 : Nat} (hk_q1 : kC q1 = 0) (hp_q1 : q1 ∈ pl) (hq_q1 : q1 + 1 ∈ pl)
    (o_1 : 0 + 52 ≤ 52)
    (o_2 : 0 + 52 ≤ 52)
    (e_3 : Φ none (mC P O (up2 I p 1 (I q1 1)) (up1 A (p + 1) (va_cpy (A (q1 + 1)) (A (p + 1)) 0 0 52)) J) pl) :
    WA X (mC P O I A J) pl 0 0 0 [(0, .ref p), (1, .ref q1)] [] := by
  refine a_aload_n F 1 dX0_copyFrom_0 rfl rfl ?_
  refine a_getr (b := (q1 + 1)) F fl_0_9 rfl (hp_q1) hk_q1 (laP_bd hP hk_q1) dX0_copyFrom_1 ?_
  refine a_iconst (v := 0) F dX0_copyFrom_4 (by decide) ?_
  refine a_aload_n F 0 dX0_copyFrom_5 rfl rfl ?_
  refine a_getr (b := (p + 1)) F fl_0_9 rfl (hp_p) hk_p (laP_bd hP hk_p) dX0_copyFrom_6 ?_
  refine a_iconst (v := 0) F dX0_copyFrom_9 (by decide) ?_
  refine a_aload_n F 0 dX0_copyFrom_10 rfl rfl ?_
  refine a_getr (b := (p + 1)) F fl_0_9 rfl (hp_p) hk_p (laP_bd hP hk_p) dX0_copyFrom_11 ?_
  refine a_alen (v := 52) F (hq_p) (k_bd hk_p).1 (by decide) (by decide) (show Int32.ofNat (nC (p + 1)) = 52 by rw [(k_bd hk_p).2]; rfl) dX0_copyFrom_14 ?_
  refine a_cpyi F cp_0_41 (hq_q1) (hq_p) (k_bd hk_q1).1 (k_bd hk_p).1 (by decide) (by decide) (by decide) (show _ ≤ nC (q1 + 1) from (k_bd hk_q1).2 ▸ o_1) (show _ ≤ nC (p + 1) from (k_bd hk_p).2 ▸ o_2) (by decide) (by decide) dX0_copyFrom_15 ?_
  refine a_aload_n F 0 dX0_copyFrom_18 rfl rfl ?_
  refine a_aload_n F 1 dX0_copyFrom_19 rfl rfl ?_
  refine a_geti F fl_0_25 rfl (hp_q1) hk_q1 dX0_copyFrom_20 ?_
  refine a_puti F fl_0_25 rfl rfl rfl rfl (hp_p) hk_p dX0_copyFrom_23 ?_
  exact a_vret F E dX0_copyFrom_26 (Nat.le_refl 0) (Nat.le_refl 0) (e_3)

set_option maxRecDepth 10000 in
theorem c_0_copyFrom (l : Launch) {P O : Nat → Nat → Option Nat} (hP : laP P) (I A : Nat → Nat → Int32) (J : Nat → Nat → Int64) {pl : List Nat} (hB : inB pl) (p : Nat) (hk_p : kC p = 0) (hp_p : p ∈ pl) (hq_p : p + 1 ∈ pl) (q1 : Nat) (hk_q1 : kC q1 = 0) (hp_q1 : q1 ∈ pl) (hq_q1 : q1 + 1 ∈ pl) : Con l 1 yX0_copyFrom cX0_copyFrom 2 none [.ref p, .ref q1] (mC P O I A J) pl 0 0 (PC none P O (up2 I p 1 (I q1 1)) (up1 A (p + 1) (va_cpy (A (q1 + 1)) (A (p + 1)) 0 0 52)) J pl) := by
  refine Con.of (by decide) (Nat.le_of_ble_eq_true rfl) (fun X hX9 hn9 F E => ?_)
  refine r_0_copyFrom_0 F E hP hB hk_p hp_p hq_p hk_q1 hp_q1 hq_q1 ?_ ?_ ?_ <;> (clear F E hn9 hX9; (try clear X); first | omega | exact ⟨rfl, rfl, rfl⟩)

def clrR (r : Nat → Int32) : Nat → Int32 := upd (upd (fillF r 52 (fun _ => 0)) 0 15) 26 15

theorem r_0_clear_0 {X : Ctx} (F : Fx X cX0_clear RX0 1 3 0 0) {Φ : Option Value → HS → List Nat → Prop} (E : Ex X none 0 0 Φ) {P O : Nat → Nat → Option Nat} (hP : laP P) {I A : Nat → Nat → Int32} {J : Nat → Nat → Int64} {pl : List Nat} (hB : inB pl) {p : Nat} (hk_p : kC p = 0) (hp_p : p ∈ pl) (hq_p : p + 1 ∈ pl)
    (o_1 : nC (p + 1) ≤ 5000)
    (o_2 : vp_in ((0 : Int32) * 26 + (0 : Int32)) 52)
    (o_3 : vp_in ((1 : Int32) * 26 + (0 : Int32)) 52)
    (e_4 : Φ none (mC P O (up2 I p 1 0) (up1 (up1 (up1 A (p + 1) (fillF (A (p + 1)) (nC (p + 1)) (fun _ => (0 : Int32)))) (p + 1) (upd ((up1 A (p + 1) (fillF (A (p + 1)) (nC (p + 1)) (fun _ => (0 : Int32)))) (p + 1)) ((0 : Int32) * 26 + (0 : Int32)).toNatClampNeg (15 : Int32))) (p + 1) (upd ((up1 (up1 A (p + 1) (fillF (A (p + 1)) (nC (p + 1)) (fun _ => (0 : Int32)))) (p + 1) (upd ((up1 A (p + 1) (fillF (A (p + 1)) (nC (p + 1)) (fun _ => (0 : Int32)))) (p + 1)) ((0 : Int32) * 26 + (0 : Int32)).toNatClampNeg (15 : Int32))) (p + 1)) ((1 : Int32) * 26 + (0 : Int32)).toNatClampNeg (15 : Int32))) J) pl) :
    WA X (mC P O I A J) pl 0 0 0 [(0, .ref p)] [] := by
  refine a_aload_n F 0 dX0_clear_0 rfl rfl ?_
  refine a_getr (b := (p + 1)) F fl_0_9 rfl (hp_p) hk_p (laP_bd hP hk_p) dX0_clear_1 ?_
  refine a_iconst (v := 0) F dX0_clear_4 (by decide) ?_
  refine a_callS (As := [.ref (p + 1), .int 0]) (st := []) F (c_J7_fill_53178 (xl X) hP I A J hB (p + 1) (k_bd hk_p).1 (hq_p) (0 : Int32) (o_1)) ml_0_15 sm_yJ7_fill_53178 (by decide) rfl dX0_clear_5 (by decide) (Nat.le_refl 0) (Nat.le_refl 0) (hl_r (hp_p) hl_nil) hs_nil ?_
  rintro _ _ _ ⟨rfl, rfl, rfl⟩ _
  show WA X (mC P O I (up1 A (p + 1) (fillF (A (p + 1)) (nC (p + 1)) (fun _ => (0 : Int32)))) J) pl 0 0 8 [(0, .ref p)] []
  refine a_aload_n F 0 dX0_clear_8 rfl rfl ?_
  refine a_iconst (v := 0) F dX0_clear_9 (by decide) ?_
  refine a_iconst (v := 0) F dX0_clear_10 (by decide) ?_
  refine a_bipush (v := 15) F dX0_clear_11 (by decide) ?_
  refine a_callV (b := p) (As := [.int 0, .int 0, .int 15]) (st := []) (ci := 0) F (c_0_put (xl X) hP I (up1 A (p + 1) (fillF (A (p + 1)) (nC (p + 1)) (fun _ => (0 : Int32)))) J hB p hk_p (hp_p) (hq_p) (0 : Int32) (0 : Int32) (15 : Int32) (o_2)) ml_0_21 im_yX0_put se_yX0_put (by decide) (by decide) rfl (hp_p) hk_p rfl dX0_clear_13 (by decide) (Nat.le_refl 0) (Nat.le_refl 0) (hl_r (hp_p) hl_nil) hs_nil ?_
  rintro _ _ _ ⟨rfl, rfl, rfl⟩ _
  show WA X (mC P O I (up1 (up1 A (p + 1) (fillF (A (p + 1)) (nC (p + 1)) (fun _ => (0 : Int32)))) (p + 1) (upd ((up1 A (p + 1) (fillF (A (p + 1)) (nC (p + 1)) (fun _ => (0 : Int32)))) (p + 1)) ((0 : Int32) * 26 + (0 : Int32)).toNatClampNeg (15 : Int32))) J) pl 0 0 16 [(0, .ref p)] []
  refine a_aload_n F 0 dX0_clear_16 rfl rfl ?_
  refine a_iconst (v := 1) F dX0_clear_17 (by decide) ?_
  refine a_iconst (v := 0) F dX0_clear_18 (by decide) ?_
  refine a_bipush (v := 15) F dX0_clear_19 (by decide) ?_
  refine a_callV (b := p) (As := [.int 1, .int 0, .int 15]) (st := []) (ci := 0) F (c_0_put (xl X) hP I (up1 (up1 A (p + 1) (fillF (A (p + 1)) (nC (p + 1)) (fun _ => (0 : Int32)))) (p + 1) (upd ((up1 A (p + 1) (fillF (A (p + 1)) (nC (p + 1)) (fun _ => (0 : Int32)))) (p + 1)) ((0 : Int32) * 26 + (0 : Int32)).toNatClampNeg (15 : Int32))) J hB p hk_p (hp_p) (hq_p) (1 : Int32) (0 : Int32) (15 : Int32) (o_3)) ml_0_21 im_yX0_put se_yX0_put (by decide) (by decide) rfl (hp_p) hk_p rfl dX0_clear_21 (by decide) (Nat.le_refl 0) (Nat.le_refl 0) (hl_r (hp_p) hl_nil) hs_nil ?_
  rintro _ _ _ ⟨rfl, rfl, rfl⟩ _
  show WA X (mC P O I (up1 (up1 (up1 A (p + 1) (fillF (A (p + 1)) (nC (p + 1)) (fun _ => (0 : Int32)))) (p + 1) (upd ((up1 A (p + 1) (fillF (A (p + 1)) (nC (p + 1)) (fun _ => (0 : Int32)))) (p + 1)) ((0 : Int32) * 26 + (0 : Int32)).toNatClampNeg (15 : Int32))) (p + 1) (upd ((up1 (up1 A (p + 1) (fillF (A (p + 1)) (nC (p + 1)) (fun _ => (0 : Int32)))) (p + 1) (upd ((up1 A (p + 1) (fillF (A (p + 1)) (nC (p + 1)) (fun _ => (0 : Int32)))) (p + 1)) ((0 : Int32) * 26 + (0 : Int32)).toNatClampNeg (15 : Int32))) (p + 1)) ((1 : Int32) * 26 + (0 : Int32)).toNatClampNeg (15 : Int32))) J) pl 0 0 24 [(0, .ref p)] []
  refine a_aload_n F 0 dX0_clear_24 rfl rfl ?_
  refine a_iconst (v := 0) F dX0_clear_25 (by decide) ?_
  refine a_puti F fl_0_25 rfl rfl rfl rfl (hp_p) hk_p dX0_clear_26 ?_
  exact a_vret F E dX0_clear_29 (Nat.le_refl 0) (Nat.le_refl 0) (e_4)

set_option maxRecDepth 10000 in
theorem c_0_clear (l : Launch) {P O : Nat → Nat → Option Nat} (hP : laP P) (I A : Nat → Nat → Int32) (J : Nat → Nat → Int64) {pl : List Nat} (hB : inB pl) (p : Nat) (hk_p : kC p = 0) (hp_p : p ∈ pl) (hq_p : p + 1 ∈ pl) : Con l 3 yX0_clear cX0_clear 1 none [.ref p] (mC P O I A J) pl 0 0 (PC none P O (up2 I p 1 0) (up1 A (p + 1) (clrR (A (p + 1)))) J pl) := by
  refine Con.of (by decide) (Nat.le_of_ble_eq_true rfl) (fun X hX9 hn9 F E => ?_)
  refine r_0_clear_0 F E hP hB hk_p hp_p hq_p ?_ ?_ ?_ ?_ <;> (clear F E hn9 hX9; (try clear X); first | (rw [(k_bd hk_p).2]; omega) | exact vp_in_nI (n := 0) (by omega) (by omega) | exact vp_in_nI (n := 26) (by omega) (by omega) | (refine ⟨rfl, ?_, rfl⟩; rw [up1_up1, up1_up1, up1_s, up1_s, (k_bd hk_p).2]; rfl))

theorem b_size {n : Nat} (h : n < 400) : ¬ (400 : Int32) ≤ nI n := nI_ge (b := 400) h (by omega)

theorem r_1_add_0 {X : Ctx} (F : Fx X cX1_add RX1 2 1 0 0) {Φ : Option Value → HS → List Nat → Prop} (E : Ex X none 0 0 Φ) {P O : Nat → Nat → Option Nat} (hP : laP P) {I A : Nat → Nat → Int32} {J : Nat → Nat → Int64} {pl : List Nat} (hB : inB pl) {x1 : Int32} {p : Nat} (hk_p : kC p = 1) (hp_p : p ∈ pl) (hq_p : p + 1 ∈ pl)
    (e_1 : (400 ≤ (I p 1)) → Φ none (mC P O I A J) pl)
    (o_2 : (¬ (400 ≤ (I p 1))) → vp_in (I p 1) 400)
    (e_3 : (¬ (400 ≤ (I p 1))) → Φ none (mC P O (up2 I p 1 ((I p 1) + 1)) (up1 A (p + 1) (upd (A (p + 1)) (I p 1).toNatClampNeg (x1 &&& 255))) J) pl) :
    WA X (mC P O I A J) pl 0 0 0 [(0, .ref p), (1, .int x1)] [] := by
  refine a_aload_n F 0 dX1_add_0 rfl rfl ?_
  refine a_geti F fl_1_15 rfl (hp_p) hk_p dX1_add_1 ?_
  refine a_aload_n F 0 dX1_add_4 rfl rfl ?_
  refine a_getr (b := (p + 1)) F fl_1_9 rfl (hp_p) hk_p (laP_by hP hk_p) dX1_add_5 ?_
  refine a_alen (v := 400) F (hq_p) (k_by hk_p).1 (by decide) (by decide) (show Int32.ofNat (nC (p + 1)) = 400 by rw [(k_by hk_p).2]; rfl) dX1_add_8 ?_
  refine a_icmp_ge (tgt := 36) F dX1_add_9 (by decide) (fun (c_1 : 400 ≤ (I p 1)) => ?_) (fun (c_1 : ¬ (400 ≤ (I p 1))) => ?_)
  · exact a_vret F E dX1_add_36 (Nat.le_refl 0) (Nat.le_refl 0) (e_1 c_1)
  · refine a_aload_n F 0 dX1_add_12 rfl rfl ?_
    refine a_getr (b := (p + 1)) F fl_1_9 rfl (hp_p) hk_p (laP_by hP hk_p) dX1_add_13 ?_
    refine a_aload_n F 0 dX1_add_16 rfl rfl ?_
    refine a_geti F fl_1_15 rfl (hp_p) hk_p dX1_add_17 ?_
    refine a_iload_n F 1 dX1_add_20 rfl rfl ?_
    refine a_sipush (v := 255) F dX1_add_21 (by decide) ?_
    refine a_iand F dX1_add_24 ?_
    refine a_iast F (hq_p) (k_by hk_p).1 (show vp_in _ (nC (p + 1)) from (k_by hk_p).2 ▸ o_2 c_1) dX1_add_25 ?_
    refine a_aload_n F 0 dX1_add_26 rfl rfl ?_
    refine a_dup F dX1_add_27 rfl ?_
    refine a_geti F fl_1_15 rfl (hp_p) hk_p dX1_add_28 ?_
    refine a_iconst (v := 1) F dX1_add_31 (by decide) ?_
    refine a_iadd F dX1_add_32 ?_
    refine a_puti F fl_1_15 rfl rfl rfl rfl (hp_p) hk_p dX1_add_33 ?_
    exact a_vret F E dX1_add_36 (Nat.le_refl 0) (Nat.le_refl 0) (e_3 c_1)

set_option maxRecDepth 10000 in
theorem c_1_add (l : Launch) {P O : Nat → Nat → Option Nat} (hP : laP P) (I A : Nat → Nat → Int32) (J : Nat → Nat → Int64) {pl : List Nat} (hB : inB pl) (p : Nat) (hk_p : kC p = 1) (hp_p : p ∈ pl) (hq_p : p + 1 ∈ pl) (v : Int32) (n : Nat) (hn : n < 400) (hI : I p 1 = nI n) : Con l 1 yX1_add cX1_add 2 none [.ref p, .int v] (mC P O I A J) pl 0 0 (PC none P O (up2 I p 1 (nI (n + 1))) (up1 A (p + 1) (upd (A (p + 1)) n (v &&& 255))) J pl) := by
  refine Con.of (by decide) (Nat.le_of_ble_eq_true rfl) (fun X hX9 hn9 F E => ?_)
  have h : ¬ (400 : Int32) ≤ I p 1 := by rw [hI]; exact b_size hn
  refine r_1_add_0 F E hP hB hk_p hp_p hq_p (fun z => absurd z h) (fun _ => by rw [hI]; exact vp_in_nI (by omega) (by omega)) (fun _ => ⟨rfl, ?_, rfl⟩)
  rw [hI, nI_1, nI_clamp (by omega)]

theorem r_1_at_0 {X : Ctx} (F : Fx X cX1_at RX1 2 1 0 0) {Φ : Option Value → HS → List Nat → Prop} (E : Ex X (some .int) 0 0 Φ) {P O : Nat → Nat → Option Nat} (hP : laP P) {I A : Nat → Nat → Int32} {J : Nat → Nat → Int64} {pl : List Nat} (hB : inB pl) {x1 : Int32} {p : Nat} (hk_p : kC p = 1) (hp_p : p ∈ pl) (hq_p : p + 1 ∈ pl)
    (e_1 : (x1 < 0) → Φ (some (.int (-1))) (mC P O I A J) pl)
    (o_2 : (¬ (x1 < 0)) → (x1 < (I p 1)) → vp_in x1 400)
    (e_3 : (¬ (x1 < 0)) → (x1 < (I p 1)) → Φ (some (.int (A (p + 1) x1.toNatClampNeg))) (mC P O I A J) pl)
    (e_4 : (¬ (x1 < 0)) → (¬ (x1 < (I p 1))) → Φ (some (.int (-1))) (mC P O I A J) pl) :
    WA X (mC P O I A J) pl 0 0 0 [(0, .ref p), (1, .int x1)] [] := by
  refine a_iload_n F 1 dX1_at_0 rfl rfl ?_
  refine a_if_lt (tgt := 12) F dX1_at_1 (by decide) (fun (c_1 : x1 < 0) => ?_) (fun (c_1 : ¬ (x1 < 0)) => ?_)
  · refine a_iconst (v := (-1)) F dX1_at_12 (by decide) ?_
    refine a_goto (tgt := 22) F dX1_at_13 (by decide) ?_
    exact a_iret F E dX1_at_22 (Nat.le_refl 0) (Nat.le_refl 0) (e_1 c_1)
  · refine a_iload_n F 1 dX1_at_4 rfl rfl ?_
    refine a_aload_n F 0 dX1_at_5 rfl rfl ?_
    refine a_geti F fl_1_15 rfl (hp_p) hk_p dX1_at_6 ?_
    refine a_icmp_lt (tgt := 16) F dX1_at_9 (by decide) (fun (c_2 : x1 < (I p 1)) => ?_) (fun (c_2 : ¬ (x1 < (I p 1))) => ?_)
    · refine a_aload_n F 0 dX1_at_16 rfl rfl ?_
      refine a_getr (b := (p + 1)) F fl_1_9 rfl (hp_p) hk_p (laP_by hP hk_p) dX1_at_17 ?_
      refine a_iload_n F 1 dX1_at_20 rfl rfl ?_
      refine a_iald F (hq_p) (k_by hk_p).1 (show vp_in _ (nC (p + 1)) from (k_by hk_p).2 ▸ o_2 c_1 c_2) dX1_at_21 ?_
      exact a_iret F E dX1_at_22 (Nat.le_refl 0) (Nat.le_refl 0) (e_3 c_1 c_2)
    · refine a_iconst (v := (-1)) F dX1_at_12 (by decide) ?_
      refine a_goto (tgt := 22) F dX1_at_13 (by decide) ?_
      exact a_iret F E dX1_at_22 (Nat.le_refl 0) (Nat.le_refl 0) (e_4 c_1 c_2)

set_option maxRecDepth 10000 in
theorem c_1_at (l : Launch) {P O : Nat → Nat → Option Nat} (hP : laP P) (I A : Nat → Nat → Int32) (J : Nat → Nat → Int64) {pl : List Nat} (hB : inB pl) (p : Nat) (hk_p : kC p = 1) (hp_p : p ∈ pl) (hq_p : p + 1 ∈ pl) (k n : Nat) (hk : k < 2 ^ 31) (hn : n ≤ 400) (hI : I p 1 = nI n) : Con l 1 yX1_at cX1_at 2 (some .int) [.ref p, .int (nI k)] (mC P O I A J) pl 0 0 (PC (some (.int (if k < n then A (p + 1) k else -1))) P O I A J pl) := by
  refine Con.of (by decide) (Nat.le_of_ble_eq_true rfl) (fun X hX9 hn9 F E => ?_)
  have h0 : ¬ nI k < 0 := fun z => by have := (nI_ltn 0 hk (by omega)).mp z; omega
  have h1 : nI k < I p 1 ↔ k < n := by rw [hI]; exact nI_ltI hk (by omega)
  refine r_1_at_0 F E hP hB hk_p hp_p hq_p (fun z => absurd z h0) (fun _ c => vp_in_nI (by have := h1.mp c; omega) (by omega)) (fun _ c => ⟨by rw [nI_clamp hk, if_pos (h1.mp c)], rfl, rfl⟩) (fun _ c => ⟨by rw [if_neg (fun z => c (h1.mpr z))], rfl, rfl⟩)
