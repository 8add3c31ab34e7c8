theorem r_J9_max_7cf53_0 {X : Ctx} (F : Fx X cJ9_max_7cf53 RJ9 2 1 0 0) {Φ : Option Value → HS → List Nat → Prop} (E : Ex X (some .int) 0 0 Φ) {P O : Nat → Nat → Option Nat} (hP : laP P) {I A : Nat → Nat → Int32} {J : Nat → Nat → Int64} {pl : List Nat} (hB : inB pl) {x0 x1 : Int32}
    (e_1 : (x0 < x1) → Φ (some (.int x1)) (mC P O I A J) pl)
    (e_2 : (¬ (x0 < x1)) → Φ (some (.int x0)) (mC P O I A J) pl) :
    WA X (mC P O I A J) pl 0 0 0 [(0, .int x0), (1, .int x1)] [] := by
  refine a_iload_n F 0 dJ9_max_7cf53_0 rfl rfl ?_
  refine a_iload_n F 1 dJ9_max_7cf53_1 rfl rfl ?_
  refine a_icmp_lt (tgt := 9) F dJ9_max_7cf53_2 (by decide) (fun (c_1 : x0 < x1) => ?_) (fun (c_1 : ¬ (x0 < x1)) => ?_)
  · refine a_iload_n F 1 dJ9_max_7cf53_9 rfl rfl ?_
    exact a_iret F E dJ9_max_7cf53_10 (Nat.le_refl 0) (Nat.le_refl 0) (e_1 c_1)
  · refine a_iload_n F 0 dJ9_max_7cf53_5 rfl rfl ?_
    refine a_goto (tgt := 10) F dJ9_max_7cf53_6 (by decide) ?_
    exact a_iret F E dJ9_max_7cf53_10 (Nat.le_refl 0) (Nat.le_refl 0) (e_2 c_1)

set_option maxRecDepth 10000 in
theorem c_J9_max_7cf53 (l : Launch) {P O : Nat → Nat → Option Nat} (hP : laP P) (I A : Nat → Nat → Int32) (J : Nat → Nat → Int64) {pl : List Nat} (hB : inB pl) (a b : Int32) : Con l 1 yJ9_max_7cf53 cJ9_max_7cf53 2 (some .int) [.int a, .int b] (mC P O I A J) pl 0 0 (PC (some (.int (if a < b then b else a))) P O I A J pl) := by
  refine Con.of (by decide) (Nat.le_of_ble_eq_true rfl) (fun X hX9 hn9 F E => ?_)
  refine r_J9_max_7cf53_0 F E hP hB ?_ ?_ <;> (clear F E hn9 hX9; (try clear X); (intro c; first | (rw [if_pos c]; exact ⟨rfl, rfl, rfl⟩) | (rw [if_neg c]; exact ⟨rfl, rfl, rfl⟩)))

theorem r_J9_min_7cf53_0 {X : Ctx} (F : Fx X cJ9_min_7cf53 RJ9 2 1 0 0) {Φ : Option Value → HS → List Nat → Prop} (E : Ex X (some .int) 0 0 Φ) {P O : Nat → Nat → Option Nat} (hP : laP P) {I A : Nat → Nat → Int32} {J : Nat → Nat → Int64} {pl : List Nat} (hB : inB pl) {x0 x1 : Int32}
    (e_1 : (x1 < x0) → Φ (some (.int x1)) (mC P O I A J) pl)
    (e_2 : (¬ (x1 < x0)) → Φ (some (.int x0)) (mC P O I A J) pl) :
    WA X (mC P O I A J) pl 0 0 0 [(0, .int x0), (1, .int x1)] [] := by
  refine a_iload_n F 0 dJ9_min_7cf53_0 rfl rfl ?_
  refine a_iload_n F 1 dJ9_min_7cf53_1 rfl rfl ?_
  refine a_icmp_gt (tgt := 9) F dJ9_min_7cf53_2 (by decide) (fun (c_1 : x1 < x0) => ?_) (fun (c_1 : ¬ (x1 < x0)) => ?_)
  · refine a_iload_n F 1 dJ9_min_7cf53_9 rfl rfl ?_
    exact a_iret F E dJ9_min_7cf53_10 (Nat.le_refl 0) (Nat.le_refl 0) (e_1 c_1)
  · refine a_iload_n F 0 dJ9_min_7cf53_5 rfl rfl ?_
    refine a_goto (tgt := 10) F dJ9_min_7cf53_6 (by decide) ?_
    exact a_iret F E dJ9_min_7cf53_10 (Nat.le_refl 0) (Nat.le_refl 0) (e_2 c_1)

set_option maxRecDepth 10000 in
theorem c_J9_min_7cf53 (l : Launch) {P O : Nat → Nat → Option Nat} (hP : laP P) (I A : Nat → Nat → Int32) (J : Nat → Nat → Int64) {pl : List Nat} (hB : inB pl) (a b : Int32) : Con l 1 yJ9_min_7cf53 cJ9_min_7cf53 2 (some .int) [.int a, .int b] (mC P O I A J) pl 0 0 (PC (some (.int (if b < a then b else a))) P O I A J pl) := by
  refine Con.of (by decide) (Nat.le_of_ble_eq_true rfl) (fun X hX9 hn9 F E => ?_)
  refine r_J9_min_7cf53_0 F E hP hB ?_ ?_ <;> (clear F E hn9 hX9; (try clear X); (intro c; first | (rw [if_pos c]; exact ⟨rfl, rfl, rfl⟩) | (rw [if_neg c]; exact ⟨rfl, rfl, rfl⟩)))

theorem r_J9_max_f86c9_0 {X : Ctx} (F : Fx X cJ9_max_f86c9 RJ9 4 1 0 0) {Φ : Option Value → HS → List Nat → Prop} (E : Ex X (some .long) 0 0 Φ) {P O : Nat → Nat → Option Nat} (hP : laP P) {I A : Nat → Nat → Int32} {J : Nat → Nat → Int64} {pl : List Nat} (hB : inB pl) {y0 y2 : Int64}
    (e_1 : ((lg_cmp y0 y2) < 0) → Φ (some (.long y2)) (mC P O I A J) pl)
    (e_2 : (¬ ((lg_cmp y0 y2) < 0)) → Φ (some (.long y0)) (mC P O I A J) pl) :
    WA X (mC P O I A J) pl 0 0 0 [(0, .long y0), (2, .long y2)] [] := by
  refine a_lload_n F 0 dJ9_max_f86c9_0 rfl rfl ?_
  refine a_lload_n F 1 dJ9_max_f86c9_1 rfl rfl ?_
  refine a_lcmp F dJ9_max_f86c9_2 ?_
  refine a_if_lt (tgt := 10) F dJ9_max_f86c9_3 (by decide) (fun (c_1 : (lg_cmp y0 y2) < 0) => ?_) (fun (c_1 : ¬ ((lg_cmp y0 y2) < 0)) => ?_)
  · refine a_lload_n F 1 dJ9_max_f86c9_10 rfl rfl ?_
    exact a_lret F E dJ9_max_f86c9_11 (Nat.le_refl 0) (Nat.le_refl 0) (e_1 c_1)
  · refine a_lload_n F 0 dJ9_max_f86c9_6 rfl rfl ?_
    refine a_goto (tgt := 11) F dJ9_max_f86c9_7 (by decide) ?_
    exact a_lret F E dJ9_max_f86c9_11 (Nat.le_refl 0) (Nat.le_refl 0) (e_2 c_1)

set_option maxRecDepth 10000 in
theorem c_J9_max_f86c9 (l : Launch) {P O : Nat → Nat → Option Nat} (hP : laP P) (I A : Nat → Nat → Int32) (J : Nat → Nat → Int64) {pl : List Nat} (hB : inB pl) (a b : Int64) : Con l 1 yJ9_max_f86c9 cJ9_max_f86c9 4 (some .long) [.long a, .long b] (mC P O I A J) pl 0 0 (PC (some (.long (if lg_cmp a b < 0 then b else a))) P O I A J pl) := by
  refine Con.of (by decide) (Nat.le_of_ble_eq_true rfl) (fun X hX9 hn9 F E => ?_)
  refine r_J9_max_f86c9_0 F E hP hB ?_ ?_ <;> (clear F E hn9 hX9; (try clear X); (intro c; first | (rw [if_pos c]; exact ⟨rfl, rfl, rfl⟩) | (rw [if_neg c]; exact ⟨rfl, rfl, rfl⟩)))

theorem r_J7_fill_53178_0 {X : Ctx} (F : Fx X cJ7_fill_53178 RJ7 4 1 0 0) {P O : Nat → Nat → Option Nat} (hP : laP P) {I A : Nat → Nat → Int32} {J : Nat → Nat → Int64} {pl : List Nat} (hB : inB pl) {x1 : Int32} {q0 : Nat} (hk_q0 : kC q0 = 13) (hp_q0 : q0 ∈ pl)
    (e_1 : WA X (mC P O I A J) pl 0 0 5 [(0, .ref q0), (1, .int x1), (2, .int 0), (3, .int (Int32.ofNat (nC q0)))] []) :
    WA X (mC P O I A J) pl 0 0 0 [(0, .ref q0), (1, .int x1)] [] := by
  refine a_iconst (v := 0) F dJ7_fill_53178_0 (by decide) ?_
  refine a_istore_n F dJ7_fill_53178_1 rfl (by decide) rfl ?_
  refine a_aload_n F 1 dJ7_fill_53178_2 rfl rfl ?_
  refine a_alen (v := Int32.ofNat (nC q0)) F (hp_q0) hk_q0 (by decide) (by decide) rfl dJ7_fill_53178_3 ?_
  refine a_istore_n F dJ7_fill_53178_4 rfl (by decide) rfl ?_
  refine a_sub [2, 3, 1, 0] rfl ?_
  exact e_1

theorem r_J7_fill_53178_5 {X : Ctx} (F : Fx X cJ7_fill_53178 RJ7 4 1 0 0) {Φ : Option Value → HS → List Nat → Prop} (E : Ex X none 0 0 Φ) {P O : Nat → Nat → Option Nat} (hP : laP P) {I A : Nat → Nat → Int32} {J : Nat → Nat → Int64} {pl : List Nat} (hB : inB pl) {x1 x2 x3 : Int32} {q0 : Nat} (hk_q0 : kC q0 = 13) (hp_q0 : q0 ∈ pl)
    (e_1 : (x3 ≤ x2) → Φ none (mC P O I A J) pl)
    (o_2 : (¬ (x3 ≤ x2)) → vp_in x2 (nC q0))
    (e_3 : (¬ (x3 ≤ x2)) → WA X (mC P O I (up1 A q0 (upd (A q0) x2.toNatClampNeg x1)) J) pl 0 0 5 [(0, .ref q0), (1, .int x1), (2, .int (x2 + 1)), (3, .int x3)] []) :
    WA X (mC P O I A J) pl 0 0 5 [(0, .ref q0), (1, .int x1), (2, .int x2), (3, .int x3)] [] := by
  refine a_iload_n F 2 dJ7_fill_53178_5 rfl rfl ?_
  refine a_iload_n F 3 dJ7_fill_53178_6 rfl rfl ?_
  refine a_icmp_ge (tgt := 20) F dJ7_fill_53178_7 (by decide) (fun (c_1 : x3 ≤ x2) => ?_) (fun (c_1 : ¬ (x3 ≤ x2)) => ?_)
  · exact a_vret F E dJ7_fill_53178_20 (Nat.le_refl 0) (Nat.le_refl 0) (e_1 c_1)
  · refine a_aload_n F 0 dJ7_fill_53178_10 rfl rfl ?_
    refine a_iload_n F 2 dJ7_fill_53178_11 rfl rfl ?_
    refine a_iload_n F 1 dJ7_fill_53178_12 rfl rfl ?_
    refine a_iast F (hp_q0) hk_q0 (o_2 c_1) dJ7_fill_53178_13 ?_
    refine a_iinc (v := x2 + 1) F 2 dJ7_fill_53178_14 rfl rfl (by decide) rfl ?_
    refine a_goto (tgt := 5) F dJ7_fill_53178_17 (by decide) ?_
    refine a_sub [1, 2, 0, 3] rfl ?_
    exact e_3 c_1

set_option maxRecDepth 10000 in
theorem c_J7_fill_53178 (l : Launch) {P O : Nat → Nat → Option Nat} (hP : laP P) (I A : Nat → Nat → Int32) (J : Nat → Nat → Int64) {pl : List Nat} (hB : inB pl) (q0 : Nat) (hk_q0 : kC q0 = 13) (hp_q0 : q0 ∈ pl) (v : Int32) (hn : nC q0 ≤ 5000) : Con l 1 yJ7_fill_53178 cJ7_fill_53178 4 none [.ref q0, .int v] (mC P O I A J) pl 0 0 (PC none P O I (up1 A q0 (fillF (A q0) (nC q0) (fun _ => v))) J pl) := by
  refine Con.of (by decide) (Nat.le_of_ble_eq_true rfl) (fun X hX9 hn9 F E => ?_)
  have lp : ∀ f k, k + f = nC q0 → WA X (mC P O I (up1 A q0 (fillF (A q0) k (fun _ => v))) J) pl 0 0 5 [(0, .ref q0), (1, .int v), (2, .int (nI k)), (3, .int (Int32.ofNat (nC q0)))] [] := by
    intro f
    induction f with
    | zero =>
      intro k hk
      obtain rfl : k = nC q0 := by omega
      have h : Int32.ofNat (nC q0) ≤ nI (nC q0) := (nI_leI (a := nC q0) (b := nC q0) (by omega) (by omega)).mpr (Nat.le_refl _)
      exact r_J7_fill_53178_5 F E hP hB hk_q0 hp_q0 (fun _ => ⟨rfl, rfl, rfl⟩) (fun z => absurd h z) (fun z => absurd h z)
    | succ f ih =>
      intro k hk
      have h : ¬ Int32.ofNat (nC q0) ≤ nI k := fun z => by have := (nI_leI (a := nC q0) (b := k) (by omega) (by omega)).mp z; omega
      refine r_J7_fill_53178_5 F E hP hB hk_q0 hp_q0 (fun z => absurd z h) (fun _ => vp_in_nI (by omega) (by omega)) (fun _ => ?_)
      rw [up1_up1, up1_s, nI_clamp (by omega), nI_1, show upd (fillF (A q0) k (fun _ => v)) k v = fillF (A q0) (k + 1) (fun _ => v) by
        funext j; unfold fillF upd
        by_cases c : j = k
        · rw [if_pos c, if_pos (by omega)]
        · rw [if_neg c]
          by_cases c2 : j < k
          · rw [if_pos c2, if_pos (by omega)]
          · rw [if_neg c2, if_neg (by omega)]]
      exact ih (k + 1) (by omega)
  have := lp (nC q0) 0 (Nat.zero_add _)
  rw [show fillF (A q0) 0 (fun _ => v) = A q0 by funext j; unfold fillF; rw [if_neg (by omega)], up1_id] at this
  exact r_J7_fill_53178_0 F hP hB hk_q0 hp_q0 this

theorem r_J7_fill_d0a16_0 {X : Ctx} (F : Fx X cJ7_fill_d0a16 RJ7 5 1 0 0) {P O : Nat → Nat → Option Nat} (hP : laP P) {I A : Nat → Nat → Int32} {J : Nat → Nat → Int64} {pl : List Nat} (hB : inB pl) {y1 : Int64} {q0 : Nat} (hk_q0 : kC q0 = 14) (hp_q0 : q0 ∈ pl)
    (e_1 : WA X (mC P O I A J) pl 0 0 6 [(0, .ref q0), (1, .long y1), (3, .int 0), (4, .int (Int32.ofNat (nC q0)))] []) :
    WA X (mC P O I A J) pl 0 0 0 [(0, .ref q0), (1, .long y1)] [] := by
  refine a_iconst (v := 0) F dJ7_fill_d0a16_0 (by decide) ?_
  refine a_istore_n F dJ7_fill_d0a16_1 rfl (by decide) rfl ?_
  refine a_aload_n F 1 dJ7_fill_d0a16_2 rfl rfl ?_
  refine a_alen (v := Int32.ofNat (nC q0)) F (hp_q0) hk_q0 (by decide) (by decide) rfl dJ7_fill_d0a16_3 ?_
  refine a_istore F dJ7_fill_d0a16_4 (by decide) rfl ?_
  refine a_sub [2, 3, 1, 0] rfl ?_
  exact e_1

theorem r_J7_fill_d0a16_6 {X : Ctx} (F : Fx X cJ7_fill_d0a16 RJ7 5 1 0 0) {Φ : Option Value → HS → List Nat → Prop} (E : Ex X none 0 0 Φ) {P O : Nat → Nat → Option Nat} (hP : laP P) {I A : Nat → Nat → Int32} {J : Nat → Nat → Int64} {pl : List Nat} (hB : inB pl) {x3 x4 : Int32} {y1 : Int64} {q0 : Nat} (hk_q0 : kC q0 = 14) (hp_q0 : q0 ∈ pl)
    (e_1 : (x4 ≤ x3) → Φ none (mC P O I A J) pl)
    (o_2 : (¬ (x4 ≤ x3)) → vp_in x3 (nC q0))
    (e_3 : (¬ (x4 ≤ x3)) → WA X (mC P O I A (up1 J q0 (vp_updL (J q0) x3.toNatClampNeg y1))) pl 0 0 6 [(0, .ref q0), (1, .long y1), (3, .int (x3 + 1)), (4, .int x4)] []) :
    WA X (mC P O I A J) pl 0 0 6 [(0, .ref q0), (1, .long y1), (3, .int x3), (4, .int x4)] [] := by
  refine a_iload_n F 2 dJ7_fill_d0a16_6 rfl rfl ?_
  refine a_iload F 3 dJ7_fill_d0a16_7 rfl ?_
  refine a_icmp_ge (tgt := 22) F dJ7_fill_d0a16_9 (by decide) (fun (c_1 : x4 ≤ x3) => ?_) (fun (c_1 : ¬ (x4 ≤ x3)) => ?_)
  · exact a_vret F E dJ7_fill_d0a16_22 (Nat.le_refl 0) (Nat.le_refl 0) (e_1 c_1)
  · refine a_aload_n F 0 dJ7_fill_d0a16_12 rfl rfl ?_
    refine a_iload_n F 2 dJ7_fill_d0a16_13 rfl rfl ?_
    refine a_lload_n F 1 dJ7_fill_d0a16_14 rfl rfl ?_
    refine a_last F (hp_q0) hk_q0 (o_2 c_1) dJ7_fill_d0a16_15 ?_
    refine a_iinc (v := x3 + 1) F 2 dJ7_fill_d0a16_16 rfl rfl (by decide) rfl ?_
    refine a_goto (tgt := 6) F dJ7_fill_d0a16_19 (by decide) ?_
    refine a_sub [1, 2, 0, 3] rfl ?_
    exact e_3 c_1

set_option maxRecDepth 10000 in
theorem c_J7_fill_d0a16 (l : Launch) {P O : Nat → Nat → Option Nat} (hP : laP P) (I A : Nat → Nat → Int32) (J : Nat → Nat → Int64) {pl : List Nat} (hB : inB pl) (q0 : Nat) (hk_q0 : kC q0 = 14) (hp_q0 : q0 ∈ pl) (v : Int64) (hn : nC q0 ≤ 5000) : Con l 1 yJ7_fill_d0a16 cJ7_fill_d0a16 5 none [.ref q0, .long v] (mC P O I A J) pl 0 0 (PC none P O I A (up1 J q0 (fillF (J q0) (nC q0) (fun _ => v))) pl) := by
  refine Con.of (by decide) (Nat.le_of_ble_eq_true rfl) (fun X hX9 hn9 F E => ?_)
  have lp : ∀ f k, k + f = nC q0 → WA X (mC P O I A (up1 J q0 (fillF (J q0) k (fun _ => v)))) pl 0 0 6 [(0, .ref q0), (1, .long v), (3, .int (nI k)), (4, .int (Int32.ofNat (nC q0)))] [] := by
    intro f
    induction f with
    | zero =>
      intro k hk
      obtain rfl : k = nC q0 := by omega
      have h : Int32.ofNat (nC q0) ≤ nI (nC q0) := (nI_leI (a := nC q0) (b := nC q0) (by omega) (by omega)).mpr (Nat.le_refl _)
      exact r_J7_fill_d0a16_6 F E hP hB hk_q0 hp_q0 (fun _ => ⟨rfl, rfl, rfl⟩) (fun z => absurd h z) (fun z => absurd h z)
    | succ f ih =>
      intro k hk
      have h : ¬ Int32.ofNat (nC q0) ≤ nI k := fun z => by have := (nI_leI (a := nC q0) (b := k) (by omega) (by omega)).mp z; omega
      refine r_J7_fill_d0a16_6 F E hP hB hk_q0 hp_q0 (fun z => absurd z h) (fun _ => vp_in_nI (by omega) (by omega)) (fun _ => ?_)
      rw [up1_up1, up1_s, nI_clamp (by omega), nI_1, show vp_updL (fillF (J q0) k (fun _ => v)) k v = fillF (J q0) (k + 1) (fun _ => v) by
        funext j; unfold fillF vp_updL
        by_cases c : j = k
        · rw [if_pos c, if_pos (by omega)]
        · rw [if_neg c]
          by_cases c2 : j < k
          · rw [if_pos c2, if_pos (by omega)]
          · rw [if_neg c2, if_neg (by omega)]]
      exact ih (k + 1) (by omega)
  have := lp (nC q0) 0 (Nat.zero_add _)
  rw [show fillF (J q0) 0 (fun _ => v) = J q0 by funext j; unfold fillF; rw [if_neg (by omega)], up1_id] at this
  exact r_J7_fill_d0a16_0 F hP hB hk_q0 hp_q0 this
