theorem r_8_bearByBoth_0 {X : Ctx} (F : Fx X cX8_bearByBoth RX8 7 3 0 0) {P O : Nat → Nat → Option Nat} (hP : laP P) {I A : Nat → Nat → Int32} {J : Nat → Nat → Int64} {pl : List Nat} (hB : inB pl) {x1 x2 x3 : Int32}
    (e_1 : WA X (mC P O I A J) pl 0 0 3 [(0, .ref 116), (1, .int x1), (2, .int x2), (3, .int x3), (4, .int 1)] []) :
    WA X (mC P O I A J) pl 0 0 0 [(0, .ref 116), (1, .int x1), (2, .int x2), (3, .int x3)] [] := by
  refine a_iconst (v := 1) F dX8_bearByBoth_0 (by decide) ?_
  refine a_istore F dX8_bearByBoth_1 (by decide) rfl ?_
  refine a_sub [1, 2, 3, 4, 0] rfl ?_
  exact e_1

theorem r_8_bearByBoth_3 {X : Ctx} (F : Fx X cX8_bearByBoth RX8 7 3 0 0) {Φ : Option Value → HS → List Nat → Prop} (E : Ex X none 0 0 Φ) {P O : Nat → Nat → Option Nat} (hP : laP P) {I A : Nat → Nat → Int32} {J : Nat → Nat → Int64} {pl : List Nat} (hB : inB pl) {x1 x2 x3 x4 : Int32}
    (e_1 : (6 < x4) → Φ none (mC P O I A J) pl)
    (o_2 : (¬ (6 < x4)) → bO x1 x4 x2)
    (o_3 : (¬ (6 < x4)) → (lglI x1 x4 x2) → bO x1 x4 x2)
    (o_4 : (¬ (6 < x4)) → (lglI x1 x4 x2) → lglI x1 x4 x2)
    (e_5 : (¬ (6 < x4)) → (lglI x1 x4 x2) → WA X (mC P O I A J) pl 0 0 29 [(0, .ref 116), (1, .int x1), (2, .int x2), (3, .int x3), (4, .int x4), (5, .int (bvI x1 x4 x2))] [])
    (e_6 : (¬ (6 < x4)) → (¬ (lglI x1 x4 x2)) → WA X (mC P O I A J) pl 0 0 3 [(0, .ref 116), (1, .int x1), (2, .int x2), (3, .int x3), (4, .int (x4 + 1))] []) :
    WA X (mC P O I A J) pl 0 0 3 [(0, .ref 116), (1, .int x1), (2, .int x2), (3, .int x3), (4, .int x4)] [] := by
  refine a_iload F 4 dX8_bearByBoth_3 rfl ?_
  refine a_bipush (v := 6) F dX8_bearByBoth_5 (by decide) ?_
  refine a_icmp_gt (tgt := 85) F dX8_bearByBoth_7 (by decide) (fun (c_1 : 6 < x4) => ?_) (fun (c_1 : ¬ (6 < x4)) => ?_)
  · exact a_vret F E dX8_bearByBoth_85 (Nat.le_refl 0) (Nat.le_refl 0) (e_1 c_1)
  · refine a_iload_n F 1 dX8_bearByBoth_10 rfl rfl ?_
    refine a_iload F 4 dX8_bearByBoth_11 rfl ?_
    refine a_iload_n F 2 dX8_bearByBoth_13 rfl rfl ?_
    refine a_callS (As := [.int x1, .int x4, .int x2]) (st := []) F (c_8_canBearI (xl X) hP I A J hB x1 x4 x2 (o_2 c_1)) ml_8_136 sm_yX8_canBear (by decide) rfl dX8_bearByBoth_14 (by decide) (Nat.le_refl 0) (Nat.le_refl 0) (hl_r (hB _ (by decide)) (hl_i (hl_i (hl_i (hl_i hl_nil))))) hs_nil ?_
    rintro _ _ _ ⟨rfl, rfl, rfl⟩ _
    show WA X (mC P O I A J) pl 0 0 17 [(0, .ref 116), (1, .int x1), (2, .int x2), (3, .int x3), (4, .int x4)] [.int (@ite Int32 (lglI x1 x4 x2) (Classical.propDecidable _) 1 0)]
    refine a_ite (fun (c_2 : lglI x1 x4 x2) => ?_) (fun (c_2 : ¬ (lglI x1 x4 x2)) => ?_)
    · refine a_if_eq (tgt := 79) F dX8_bearByBoth_17 (by decide) (fun (c_3 : (1 : Int32) = 0) => ?_) (fun (c_3 : ¬ ((1 : Int32) = 0)) => ?_)
      · exact absurd c_3 (by decide)
      · refine a_iload_n F 1 dX8_bearByBoth_20 rfl rfl ?_
        refine a_iload F 4 dX8_bearByBoth_21 rfl ?_
        refine a_iload_n F 2 dX8_bearByBoth_23 rfl rfl ?_
        refine a_callS (As := [.int x1, .int x4, .int x2]) (st := []) F (c_8_bearI (xl X) hP I A J hB x1 x4 x2 (o_3 c_1 c_2) (o_4 c_1 c_2)) ml_8_140 sm_yX8_bear (by decide) rfl dX8_bearByBoth_24 (by decide) (Nat.le_refl 0) (Nat.le_refl 0) (hl_r (hB _ (by decide)) (hl_i (hl_i (hl_i (hl_i hl_nil))))) hs_nil ?_
        rintro _ _ _ ⟨rfl, rfl, rfl⟩ _
        show WA X (mC P O I A J) pl 0 0 27 [(0, .ref 116), (1, .int x1), (2, .int x2), (3, .int x3), (4, .int x4)] [.int (bvI x1 x4 x2)]
        refine a_istore F dX8_bearByBoth_27 (by decide) rfl ?_
        refine a_sub [1, 2, 3, 4, 5, 0] rfl ?_
        exact e_5 c_1 c_2
    · refine a_if_eq (tgt := 79) F dX8_bearByBoth_17 (by decide) (fun (c_4 : (0 : Int32) = 0) => ?_) (fun (c_4 : ¬ ((0 : Int32) = 0)) => ?_)
      · refine a_iinc (v := x4 + 1) F 4 dX8_bearByBoth_79 rfl rfl (by decide) rfl ?_
        refine a_goto (tgt := 3) F dX8_bearByBoth_82 (by decide) ?_
        refine a_sub [1, 2, 3, 4, 0] rfl ?_
        exact e_6 c_1 c_2
      · exact absurd c_4 (by decide)

theorem r_8_bearByBoth_29 {X : Ctx} (F : Fx X cX8_bearByBoth RX8 7 3 0 0) {P O : Nat → Nat → Option Nat} (hP : laP P) {I A : Nat → Nat → Int32} {J : Nat → Nat → Int64} {pl : List Nat} (hB : inB pl) {x1 x2 x3 x4 x5 : Int32}
    (e_1 : (¬ x5 = 0) → WA X (mC P O I A J) pl 0 0 40 [(0, .ref 116), (1, .int x1), (2, .int x2), (3, .int x3), (4, .int x4), (5, .int x5)] [])
    (e_2 : (x5 = 0) → WA X (mC P O I A J) pl 0 0 37 [(0, .ref 116), (1, .int x1), (2, .int x2), (3, .int x3), (4, .int x4), (5, .int x5)] [.int x5, .ref 116]) :
    WA X (mC P O I A J) pl 0 0 29 [(0, .ref 116), (1, .int x1), (2, .int x2), (3, .int x3), (4, .int x4), (5, .int x5)] [] := by
  refine a_iload F 5 dX8_bearByBoth_29 rfl ?_
  refine a_if_ne (tgt := 40) F dX8_bearByBoth_31 (by decide) (fun (c_5 : ¬ x5 = 0) => ?_) (fun (c_5 : x5 = 0) => ?_)
  · exact e_1 c_5
  · refine a_aload_n F 0 dX8_bearByBoth_34 rfl rfl ?_
    refine a_iload F 5 dX8_bearByBoth_35 rfl ?_
    exact e_2 c_5

theorem r_8_bearByBoth_40 {X : Ctx} (F : Fx X cX8_bearByBoth RX8 7 3 0 0) {P O : Nat → Nat → Option Nat} (hP : laP P) {I A : Nat → Nat → Int32} {J : Nat → Nat → Int64} {pl : List Nat} (hB : inB pl) {x1 x2 x3 x4 x5 : Int32}
    (e_1 : WA X (mC P O I A J) pl 0 0 43 [(0, .ref 116), (1, .int x1), (2, .int x2), (3, .int x3), (4, .int x4), (5, .int x5), (6, .int 1)] []) :
    WA X (mC P O I A J) pl 0 0 40 [(0, .ref 116), (1, .int x1), (2, .int x2), (3, .int x3), (4, .int x4), (5, .int x5)] [] := by
  refine a_iconst (v := 1) F dX8_bearByBoth_40 (by decide) ?_
  refine a_istore F dX8_bearByBoth_41 (by decide) rfl ?_
  refine a_sub [1, 2, 3, 4, 5, 6, 0] rfl ?_
  exact e_1

theorem r_8_bearByBoth_43 {X : Ctx} (F : Fx X cX8_bearByBoth RX8 7 3 0 0) {P O : Nat → Nat → Option Nat} (hP : laP P) {I A : Nat → Nat → Int32} {J : Nat → Nat → Int64} {pl : List Nat} (hB : inB pl) {x1 x2 x3 x4 x5 x6 : Int32}
    (e_1 : (6 < x6) → WA X (mC P O I A J) pl 0 0 3 [(0, .ref 116), (1, .int x1), (2, .int x2), (3, .int x3), (4, .int (x4 + 1))] [])
    (o_2 : (¬ (6 < x6)) → bO x5 x6 x3)
    (o_3 : (¬ (6 < x6)) → (lglI x5 x6 x3) → bO x5 x6 x3)
    (o_4 : (¬ (6 < x6)) → (lglI x5 x6 x3) → lglI x5 x6 x3)
    (e_5 : (¬ (6 < x6)) → (lglI x5 x6 x3) → WA X (mC P O I A J) pl 0 0 70 [(0, .ref 116), (1, .int x1), (2, .int x2), (3, .int x3), (4, .int x4), (5, .int x5), (6, .int x6)] [.int (bvI x5 x6 x3), .ref 116])
    (e_6 : (¬ (6 < x6)) → (¬ (lglI x5 x6 x3)) → WA X (mC P O I A J) pl 0 0 43 [(0, .ref 116), (1, .int x1), (2, .int x2), (3, .int x3), (4, .int x4), (5, .int x5), (6, .int (x6 + 1))] []) :
    WA X (mC P O I A J) pl 0 0 43 [(0, .ref 116), (1, .int x1), (2, .int x2), (3, .int x3), (4, .int x4), (5, .int x5), (6, .int x6)] [] := by
  refine a_iload F 6 dX8_bearByBoth_43 rfl ?_
  refine a_bipush (v := 6) F dX8_bearByBoth_45 (by decide) ?_
  refine a_icmp_gt (tgt := 79) F dX8_bearByBoth_47 (by decide) (fun (c_6 : 6 < x6) => ?_) (fun (c_6 : ¬ (6 < x6)) => ?_)
  · refine a_iinc (v := x4 + 1) F 4 dX8_bearByBoth_79 rfl rfl (by decide) rfl ?_
    refine a_goto (tgt := 3) F dX8_bearByBoth_82 (by decide) ?_
    refine a_sub [1, 2, 3, 4, 0] rfl ?_
    exact e_1 c_6
  · refine a_iload F 5 dX8_bearByBoth_50 rfl ?_
    refine a_iload F 6 dX8_bearByBoth_52 rfl ?_
    refine a_iload_n F 3 dX8_bearByBoth_54 rfl rfl ?_
    refine a_callS (As := [.int x5, .int x6, .int x3]) (st := []) F (c_8_canBearI (xl X) hP I A J hB x5 x6 x3 (o_2 c_6)) ml_8_136 sm_yX8_canBear (by decide) rfl dX8_bearByBoth_55 (by decide) (Nat.le_refl 0) (Nat.le_refl 0) (hl_r (hB _ (by decide)) (hl_i (hl_i (hl_i (hl_i (hl_i (hl_i hl_nil))))))) hs_nil ?_
    rintro _ _ _ ⟨rfl, rfl, rfl⟩ _
    show WA X (mC P O I A J) pl 0 0 58 [(0, .ref 116), (1, .int x1), (2, .int x2), (3, .int x3), (4, .int x4), (5, .int x5), (6, .int x6)] [.int (@ite Int32 (lglI x5 x6 x3) (Classical.propDecidable _) 1 0)]
    refine a_ite (fun (c_7 : lglI x5 x6 x3) => ?_) (fun (c_7 : ¬ (lglI x5 x6 x3)) => ?_)
    · refine a_if_eq (tgt := 73) F dX8_bearByBoth_58 (by decide) (fun (c_8 : (1 : Int32) = 0) => ?_) (fun (c_8 : ¬ ((1 : Int32) = 0)) => ?_)
      · exact absurd c_8 (by decide)
      · refine a_aload_n F 0 dX8_bearByBoth_61 rfl rfl ?_
        refine a_iload F 5 dX8_bearByBoth_62 rfl ?_
        refine a_iload F 6 dX8_bearByBoth_64 rfl ?_
        refine a_iload_n F 3 dX8_bearByBoth_66 rfl rfl ?_
        refine a_callS (As := [.int x5, .int x6, .int x3]) (st := [.ref 116]) F (c_8_bearI (xl X) hP I A J hB x5 x6 x3 (o_3 c_6 c_7) (o_4 c_6 c_7)) ml_8_140 sm_yX8_bear (by decide) rfl dX8_bearByBoth_67 (Nat.le_of_ble_eq_true rfl) (Nat.le_refl 0) (Nat.le_refl 0) (hl_r (hB _ (by decide)) (hl_i (hl_i (hl_i (hl_i (hl_i (hl_i hl_nil))))))) (hs_r (hB _ (by decide)) hs_nil) ?_
        rintro _ _ _ ⟨rfl, rfl, rfl⟩ _
        show WA X (mC P O I A J) pl 0 0 70 [(0, .ref 116), (1, .int x1), (2, .int x2), (3, .int x3), (4, .int x4), (5, .int x5), (6, .int x6)] [.int (bvI x5 x6 x3), .ref 116]
        exact e_5 c_6 c_7
    · refine a_if_eq (tgt := 73) F dX8_bearByBoth_58 (by decide) (fun (c_9 : (0 : Int32) = 0) => ?_) (fun (c_9 : ¬ ((0 : Int32) = 0)) => ?_)
      · refine a_iinc (v := x6 + 1) F 6 dX8_bearByBoth_73 rfl rfl (by decide) rfl ?_
        refine a_goto (tgt := 43) F dX8_bearByBoth_76 (by decide) ?_
        refine a_sub [1, 2, 3, 4, 5, 6, 0] rfl ?_
        exact e_6 c_6 c_7
      · exact absurd c_9 (by decide)

theorem r_8_bearByBoth_73 {X : Ctx} (F : Fx X cX8_bearByBoth RX8 7 3 0 0) {P O : Nat → Nat → Option Nat} (hP : laP P) {I A : Nat → Nat → Int32} {J : Nat → Nat → Int64} {pl : List Nat} (hB : inB pl) {x1 x2 x3 x4 x5 x6 : Int32}
    (e_1 : WA X (mC P O I A J) pl 0 0 43 [(0, .ref 116), (1, .int x1), (2, .int x2), (3, .int x3), (4, .int x4), (5, .int x5), (6, .int (x6 + 1))] []) :
    WA X (mC P O I A J) pl 0 0 73 [(0, .ref 116), (1, .int x1), (2, .int x2), (3, .int x3), (4, .int x4), (5, .int x5), (6, .int x6)] [] := by
  refine a_iinc (v := x6 + 1) F 6 dX8_bearByBoth_73 rfl rfl (by decide) rfl ?_
  refine a_goto (tgt := 43) F dX8_bearByBoth_76 (by decide) ?_
  refine a_sub [1, 2, 3, 4, 5, 6, 0] rfl ?_
  exact e_1

def bb1 (a b s p u : Nat) : Prop := lgl s p a ∧ ((mvN s p a = 0 ∧ u = 0) ∨ ∃ q, lgl (mvN s p a) q b ∧ u = mvN (mvN s p a) q b)

set_option maxRecDepth 100000 in
theorem c_8_bearByBoth (l : Launch) {P O : Nat → Nat → Option Nat} (hP : laP P) (I A : Nat → Nat → Int32) (J : Nat → Nat → Int64) {pl : List Nat} (hB : inB pl) (s a b : Nat) (o : Option Nat) (S : Nat → Prop) (hO : shO O pl) (hs : stnd s) (ha1 : 1 ≤ a) (ha : a ≤ 6) (hb1 : 1 ≤ b) (hb : b ≤ 6) (ht : rkT (A 118)) (hC : clC P O pl) (hpk : pkS P I o) (hpb : pkB o S) (hto : ∀ t, o = some t → stnd t ∧ dnC O J t) (hdn : ∀ u, bbB a b s u → stnd u ∧ dnC O J u) : Con l 3 yX8_bearByBoth cX8_bearByBoth 7 none [.ref 116, .int (nI s), .int (nI a), .int (nI b)] (mC P O I A J) pl 0 0 (csQ8 P O I A J pl (fun u => S u ∨ bbB a b s u)) := by
  refine Con.of (by decide) (Nat.le_of_ble_eq_true rfl) (fun X hX9 hn9 F E => ?_)
  have hs2 : s < 2 ^ 31 := by have := hs.1; omega
  have lp : ∀ f p (P1 : Nat → Nat → Option Nat) (I1 : Nat → Nat → Int32) (o1 : Option Nat), p + f = 7 → 1 ≤ p → frP P P1 → frK I I1 → clC P1 O pl → pkS P1 I1 o1 → pkB o1 (fun u => S u ∨ ∃ q, q < p ∧ bb1 a b s q u) → (∀ t, o1 = some t → stnd t ∧ dnC O J t) → WA X (mC P1 O I1 A J) pl 0 0 3 [(0, .ref 116), (1, .int (nI s)), (2, .int (nI a)), (3, .int (nI b)), (4, .int (nI p))] [] := by
    intro f
    induction f with
    | zero =>
      intro p P1 I1 o1 hp p1 fp fk c1 c2 c3 c4
      obtain rfl : p = 7 := by omega
      have lt : (6 : Int32) < nI 7 := by decide
      refine r_8_bearByBoth_3 F E (fp.la hP) hB (fun _ => ?_) (fun z => absurd lt z) (fun z => absurd lt z) (fun z => absurd lt z) (fun z => absurd lt z) (fun z => absurd lt z)
      exact ⟨rfl, rfl, P1, I1, o1, rfl, fp, fk, c1, c2, pkB_cg c3 (fun u => or_congr Iff.rfl ⟨fun ⟨q, _, e⟩ => ⟨q, e⟩, fun ⟨q, e⟩ => ⟨q, by have := e.1.2.1; omega, e⟩⟩), c4⟩
    | succ f ihf =>
      intro p P1 I1 o1 hp p1 fp fk c1 c2 c3 c4
      have nlt : ¬ (6 : Int32) < nI p := fun z => by have := (nI_gtn 6 (by omega) (by omega)).mp z; omega
      have ob := bO_n (s := s) (p := p) (d := a) hs2 p1 (by omega) ha
      have lg := lglI_n (s := s) (p := p) (d := a) hs2 (by omega) ha
      refine r_8_bearByBoth_3 F E (fp.la hP) hB (fun z => absurd z nlt) (fun _ => ob) (fun _ _ => ob) (fun _ z => z) (fun _ z => ?_) (fun _ z => ?_)
      rotate_left
      · rw [nI_1]
        refine ihf (p + 1) P1 I1 o1 (by omega) (by omega) fp fk c1 c2 (pkB_cg c3 (fun u => or_congr Iff.rfl ⟨fun ⟨q, a, e⟩ => ⟨q, by omega, e⟩, fun ⟨q, a, e⟩ => ⟨q, ?_, e⟩⟩)) c4
        by_cases y : q = p
        · subst y; exact absurd (lg.mpr e.1) z
        · omega
      have hl := lg.mp z
      rw [bvI_n hs2 (by omega) ha]
      have hs3 := (lgl_mv hs ha1 hl).1
      obtain ⟨w, hw⟩ : ∃ w, mvN s p a = w := ⟨_, rfl⟩
      rw [hw] at hs3 ⊢
      have hw2 : w < 2 ^ 31 := by have := hs3.1; omega
      have wd : ∀ q, lgl w q b → stnd (mvN w q b) ∧ dnC O J (mvN w q b) := fun q hq => hdn _ ⟨p, hl, Or.inr ⟨q, by rw [hw]; exact hq, by rw [hw]⟩⟩
      -- the inner rows
      have inn : ∀ f2 r (P2 : Nat → Nat → Option Nat) (I2 : Nat → Nat → Int32) (o2 : Option Nat), r + f2 = 7 → 1 ≤ r → frP P P2 → frK I I2 → clC P2 O pl → pkS P2 I2 o2 → pkB o2 (fun u => (S u ∨ ∃ q, q < p ∧ bb1 a b s q u) ∨ (w = 0 ∧ u = 0) ∨ ∃ q, q < r ∧ lgl w q b ∧ u = mvN w q b) → (∀ t, o2 = some t → stnd t ∧ dnC O J t) → WA X (mC P2 O I2 A J) pl 0 0 43 [(0, .ref 116), (1, .int (nI s)), (2, .int (nI a)), (3, .int (nI b)), (4, .int (nI p)), (5, .int (nI w)), (6, .int (nI r))] [] := by
        intro f2
        induction f2 with
        | zero =>
          intro r P2 I2 o2 hr r1 fp2 fk2 d1 d2 d3 d4
          obtain rfl : r = 7 := by omega
          have lt : (6 : Int32) < nI 7 := by decide
          refine r_8_bearByBoth_43 F (fp2.la hP) hB (fun _ => ?_) (fun z => absurd lt z) (fun z => absurd lt z) (fun z => absurd lt z) (fun z => absurd lt z) (fun z => absurd lt z)
          rw [nI_1]
          refine ihf (p + 1) P2 I2 o2 (by omega) (by omega) fp2 fk2 d1 d2 (pkB_cg d3 (fun u => ?_)) d4
          constructor
          · rintro ((e | ⟨q, c, e⟩) | ⟨e1, e2⟩ | ⟨q, c, e1, e2⟩)
            · exact Or.inl e
            · exact Or.inr ⟨q, by omega, e⟩
            · exact Or.inr ⟨p, by omega, hl, Or.inl ⟨hw.trans e1, e2⟩⟩
            · exact Or.inr ⟨p, by omega, hl, Or.inr ⟨q, by rw [hw]; exact e1, by rw [hw]; exact e2⟩⟩
          · rintro (e | ⟨q, c, e⟩)
            · exact Or.inl (Or.inl e)
            · by_cases y : q = p
              · subst y
                rcases e.2 with ⟨e1, e2⟩ | ⟨q2, e1, e2⟩
                · exact Or.inr (Or.inl ⟨hw.symm.trans e1, e2⟩)
                · rw [hw] at e1 e2; exact Or.inr (Or.inr ⟨q2, by have := e1.2.1; omega, e1, e2⟩)
              · exact Or.inl (Or.inr ⟨q, by omega, e⟩)
        | succ f2 ihi =>
          intro r P2 I2 o2 hr r1 fp2 fk2 d1 d2 d3 d4
          have nlt : ¬ (6 : Int32) < nI r := fun z => by have := (nI_gtn 6 (by omega) (by omega)).mp z; omega
          have ob := bO_n (s := w) (p := r) (d := b) hw2 r1 (by omega) hb
          have lg := lglI_n (s := w) (p := r) (d := b) hw2 (by omega) hb
          refine r_8_bearByBoth_43 F (fp2.la hP) hB (fun z => absurd z nlt) (fun _ => ob) (fun _ _ => ob) (fun _ z => z) (fun _ z => ?_) (fun _ z => ?_)
          · have hq := lg.mp z
            rw [bvI_n hw2 (by omega) hb]
            refine a_callV (b := 116) (As := [.int (nI (mvN w r b))]) (st := []) (ci := 8) F (c_8_consider (xl X) (fp2.la hP) I2 A J hB (mvN w r b) o2 _ hO (wd r hq).1 (wd r hq).2 ht d1 d2 d3 d4) ml_8_133 im_yX8_consider se_yX8_consider (by decide) (by decide) rfl (hB _ (by decide)) rfl rfl dX8_bearByBoth_70 (by decide) (Nat.le_refl 0) (Nat.le_refl 0) (hl_r (hB _ (by decide)) (hl_i (hl_i (hl_i (hl_i (hl_i (hl_i hl_nil))))))) hs_nil ?_
            rintro _ _ _ ⟨rfl, rfl, P3, I3, o3, rfl, g1, g2, g3, g4, g5, g6⟩ _
            refine r_8_bearByBoth_73 F ((fp2.tr g1).la hP) hB ?_
            rw [nI_1]
            refine ihi (r + 1) P3 I3 o3 (by omega) (by omega) (fp2.tr g1) (fk2.tr g2) g3 g4 (pkB_cg g5 (fun u => ?_)) g6
            constructor
            · rintro ((e | e | ⟨q, c, e⟩) | e)
              · exact Or.inl e
              · exact Or.inr (Or.inl e)
              · exact Or.inr (Or.inr ⟨q, by omega, e⟩)
              · exact Or.inr (Or.inr ⟨r, by omega, hq, e⟩)
            · rintro (e | e | ⟨q, c, e1, e2⟩)
              · exact Or.inl (Or.inl e)
              · exact Or.inl (Or.inr (Or.inl e))
              · by_cases y : q = r
                · subst y; exact Or.inr e2
                · exact Or.inl (Or.inr (Or.inr ⟨q, by omega, e1, e2⟩))
          · rw [nI_1]
            refine ihi (r + 1) P2 I2 o2 (by omega) (by omega) fp2 fk2 d1 d2 (pkB_cg d3 (fun u => or_congr Iff.rfl (or_congr Iff.rfl ⟨fun ⟨q, a, e⟩ => ⟨q, by omega, e⟩, fun ⟨q, a, e⟩ => ⟨q, ?_, e⟩⟩))) d4
            by_cases y : q = r
            · subst y; exact absurd (lg.mpr e.1) z
            · omega
      have cw : nI w = 0 ↔ w = 0 := nI_z hw2
      refine r_8_bearByBoth_29 F (fp.la hP) hB (fun z => r_8_bearByBoth_40 F (fp.la hP) hB ?_) (fun z => ?_)
      · have z := (not_congr cw).mp z
        exact inn 6 1 P1 I1 o1 rfl (Nat.le_refl _) fp fk c1 c2 (pkB_cg c3 (fun u => ⟨Or.inl, fun e => e.elim id (fun e => e.elim (fun e => absurd e.1 z) (fun ⟨q, c, e1, _⟩ => by have := e1.1; omega))⟩)) c4
      · have z := cw.mp z
        subst z
        have d0 := hdn 0 ⟨p, hl, Or.inl ⟨hw, rfl⟩⟩
        refine a_callV (b := 116) (As := [.int (nI 0)]) (st := []) (ci := 8) F (c_8_consider (xl X) (fp.la hP) I1 A J hB 0 o1 _ hO d0.1 d0.2 ht c1 c2 c3 c4) ml_8_133 im_yX8_consider se_yX8_consider (by decide) (by decide) rfl (hB _ (by decide)) rfl rfl dX8_bearByBoth_37 (by decide) (Nat.le_refl 0) (Nat.le_refl 0) (hl_r (hB _ (by decide)) (hl_i (hl_i (hl_i (hl_i (hl_i hl_nil)))))) hs_nil ?_
        rintro _ _ _ ⟨rfl, rfl, P3, I3, o3, rfl, g1, g2, g3, g4, g5, g6⟩ _
        refine r_8_bearByBoth_40 F ((fp.tr g1).la hP) hB ?_
        refine inn 6 1 P3 I3 o3 rfl (Nat.le_refl _) (fp.tr g1) (fk.tr g2) g3 g4 (pkB_cg g5 (fun u => ?_)) g6
        constructor
        · rintro (e | e)
          · exact Or.inl e
          · exact Or.inr (Or.inl ⟨rfl, e⟩)
        · rintro (e | ⟨-, e⟩ | ⟨q, c, e1, -⟩)
          · exact Or.inl e
          · exact Or.inr e
          · exact absurd e1 not_0
  refine r_8_bearByBoth_0 F hP hB ?_
  exact lp 6 1 P I o rfl (Nat.le_refl _) (frP.rf P) (frK.rf I) hC hpk (pkB_cg hpb (fun u => ⟨Or.inl, fun e => e.elim id (fun ⟨q, c, e⟩ => by have := e.1.1; omega)⟩)) hto

def pcQ (P O : Nat → Nat → Option Nat) (I A : Nat → Nat → Int32) (J : Nat → Nat → Int64) (pl : List Nat) (s a b : Nat) : Option Value → HS → List Nat → Prop := fun r σ' pl' => r = some (.int (nI (bst (eF 32) s a b))) ∧ pl = pl' ∧ ∃ P' I', σ' = mC P' O I' A J ∧ frP P P' ∧ frK I I' ∧ clC P' O pl
theorem pk_bst {s a b : Nat} {o : Option Nat} (hs : stnd s) (ha : 1 ≤ a) (hb : 1 ≤ b) (h : pkB o (Res s a b)) : o = some (bst (eF 32) s a b) := by
  cases o with
  | none => obtain ⟨t, ht⟩ := Res_ex s a b; exact absurd ht (h t)
  | some t => rw [bst_eq ha hb hs (show isB (eF 32) s a b t from h)]

theorem r_8_pick_0 {X : Ctx} (F : Fx X cX8_pick RX8 4 14 0 0) {Φ : Option Value → HS → List Nat → Prop} (E : Ex X (some .int) 0 0 Φ) {P O : Nat → Nat → Option Nat} (hP : laP P) {I A : Nat → Nat → Int32} {J : Nat → Nat → Int64} {pl : List Nat} (hB : inB pl) {x1 x2 x3 : Int32}
    (e_1 : (¬ x1 = 0) → (¬ x2 = x3) → WA X (mC P O (up2 I 116 7 (-1)) A J) pl 0 0 32 [(0, .ref 116), (1, .int x1), (2, .int x2), (3, .int x3)] [.int x3, .int x2, .int x1, .ref 116])
    (e_2 : (¬ x1 = 0) → (x2 = x3) → WA X (mC P O (up2 I 116 7 (-1)) A J) pl 0 0 22 [(0, .ref 116), (1, .int x1), (2, .int x2), (3, .int x3)] [.int 6, .int 4, .int x2, .int x1, .ref 116])
    (e_3 : (x1 = 0) → Φ (some (.int 0)) (mC P O I A J) pl) :
    WA X (mC P O I A J) pl 0 0 0 [(0, .ref 116), (1, .int x1), (2, .int x2), (3, .int x3)] [] := by
  refine a_iload_n F 1 dX8_pick_0 rfl rfl ?_
  refine a_if_ne (tgt := 6) F dX8_pick_1 (by decide) (fun (c_1 : ¬ x1 = 0) => ?_) (fun (c_1 : x1 = 0) => ?_)
  · refine a_aload_n F 0 dX8_pick_6 rfl rfl ?_
    refine a_iconst (v := (-1)) F dX8_pick_7 (by decide) ?_
    refine a_puti F fl_8_121 rfl rfl rfl rfl (hB _ (by decide)) rfl dX8_pick_8 ?_
    refine a_iload_n F 2 dX8_pick_11 rfl rfl ?_
    refine a_iload_n F 3 dX8_pick_12 rfl rfl ?_
    refine a_icmp_ne (tgt := 28) F dX8_pick_13 (by decide) (fun (c_2 : ¬ x2 = x3) => ?_) (fun (c_2 : x2 = x3) => ?_)
    · refine a_aload_n F 0 dX8_pick_28 rfl rfl ?_
      refine a_iload_n F 1 dX8_pick_29 rfl rfl ?_
      refine a_iload_n F 2 dX8_pick_30 rfl rfl ?_
      refine a_iload_n F 3 dX8_pick_31 rfl rfl ?_
      exact e_1 c_1 c_2
    · refine a_aload_n F 0 dX8_pick_16 rfl rfl ?_
      refine a_iload_n F 1 dX8_pick_17 rfl rfl ?_
      refine a_iload_n F 2 dX8_pick_18 rfl rfl ?_
      refine a_iconst (v := 4) F dX8_pick_19 (by decide) ?_
      refine a_bipush (v := 6) F dX8_pick_20 (by decide) ?_
      exact e_2 c_1 c_2
  · refine a_iconst (v := 0) F dX8_pick_4 (by decide) ?_
    exact a_iret F E dX8_pick_5 (Nat.le_refl 0) (Nat.le_refl 0) (e_3 c_1)

theorem r_8_pick_25 {X : Ctx} (F : Fx X cX8_pick RX8 4 14 0 0) {Φ : Option Value → HS → List Nat → Prop} (E : Ex X (some .int) 0 0 Φ) {P O : Nat → Nat → Option Nat} (hP : laP P) {I A : Nat → Nat → Int32} {J : Nat → Nat → Int64} {pl : List Nat} (hB : inB pl) {x1 x2 x3 : Int32}
    (e_1 : Φ (some (.int (I 116 7))) (mC P O I A J) pl) :
    WA X (mC P O I A J) pl 0 0 25 [(0, .ref 116), (1, .int x1), (2, .int x2), (3, .int x3)] [] := by
  refine a_goto (tgt := 42) F dX8_pick_25 (by decide) ?_
  refine a_aload_n F 0 dX8_pick_42 rfl rfl ?_
  refine a_geti F fl_8_121 rfl (hB _ (by decide)) rfl dX8_pick_43 ?_
  exact a_iret F E dX8_pick_46 (Nat.le_refl 0) (Nat.le_refl 0) (e_1)

theorem r_8_pick_35 {X : Ctx} (F : Fx X cX8_pick RX8 4 14 0 0) {P O : Nat → Nat → Option Nat} (hP : laP P) {I A : Nat → Nat → Int32} {J : Nat → Nat → Int64} {pl : List Nat} (hB : inB pl) {x1 x2 x3 : Int32}
    (e_1 : WA X (mC P O I A J) pl 0 0 39 [(0, .ref 116), (1, .int x1), (2, .int x2), (3, .int x3)] [.int x2, .int x3, .int x1, .ref 116]) :
    WA X (mC P O I A J) pl 0 0 35 [(0, .ref 116), (1, .int x1), (2, .int x2), (3, .int x3)] [] := by
  refine a_aload_n F 0 dX8_pick_35 rfl rfl ?_
  refine a_iload_n F 1 dX8_pick_36 rfl rfl ?_
  refine a_iload_n F 3 dX8_pick_37 rfl rfl ?_
  refine a_iload_n F 2 dX8_pick_38 rfl rfl ?_
  exact e_1

theorem r_8_pick_42 {X : Ctx} (F : Fx X cX8_pick RX8 4 14 0 0) {Φ : Option Value → HS → List Nat → Prop} (E : Ex X (some .int) 0 0 Φ) {P O : Nat → Nat → Option Nat} (hP : laP P) {I A : Nat → Nat → Int32} {J : Nat → Nat → Int64} {pl : List Nat} (hB : inB pl) {x1 x2 x3 : Int32}
    (e_1 : Φ (some (.int (I 116 7))) (mC P O I A J) pl) :
    WA X (mC P O I A J) pl 0 0 42 [(0, .ref 116), (1, .int x1), (2, .int x2), (3, .int x3)] [] := by
  refine a_aload_n F 0 dX8_pick_42 rfl rfl ?_
  refine a_geti F fl_8_121 rfl (hB _ (by decide)) rfl dX8_pick_43 ?_
  exact a_iret F E dX8_pick_46 (Nat.le_refl 0) (Nat.le_refl 0) (e_1)

set_option maxRecDepth 100000 in
theorem c_8_pick (l : Launch) {P O : Nat → Nat → Option Nat} (hP : laP P) (I A : Nat → Nat → Int32) (J : Nat → Nat → Int64) {pl : List Nat} (hB : inB pl) (s a b : Nat) (hO : shO O pl) (hs : stnd s) (ha1 : 1 ≤ a) (ha : a ≤ 6) (hb1 : 1 ≤ b) (hb : b ≤ 6) (ht : rkT (A 118)) (hC : clC P O pl) (hdn : ∀ u, Res s a b u → dnC O J u) : Con l 14 yX8_pick cX8_pick 4 (some .int) [.ref 116, .int (nI s), .int (nI a), .int (nI b)] (mC P O I A J) pl 0 0 (pcQ P O I A J pl s a b) := by
  refine Con.of (by decide) (Nat.le_of_ble_eq_true rfl) (fun X hX9 hn9 F E => ?_)
  have hs2 : s < 2 ^ 31 := by have := hs.1; omega
  have cs : nI s = 0 ↔ s = 0 := nI_z hs2
  have cab : nI a = nI b ↔ a = b := nI_eq (by omega) (by omega)
  have f0 : frK I (up2 I 116 7 (-1)) := fun q k h => by
    by_cases c : q = 116
    · subst c; exact up2_k (fun z => h ⟨rfl, by omega, by omega⟩)
    · exact up2_p c
  have hd2 : ∀ u, Res s a b u → stnd u ∧ dnC O J u := fun u h => ⟨(Res_st ha1 hb1 hs h).1, hdn u h⟩
  have fin : ∀ (P1 : Nat → Nat → Option Nat) (I1 : Nat → Nat → Int32) (o1 : Option Nat), frP P P1 → frK I I1 → clC P1 O pl → pkS P1 I1 o1 → pkB o1 (Res s a b) → WA X (mC P1 O I1 A J) pl 0 0 42 [(0, .ref 116), (1, .int (nI s)), (2, .int (nI a)), (3, .int (nI b))] [] := fun P1 I1 o1 fp fk c1 c2 c3 => by
    have e := pk_bst hs ha1 hb1 c3
    subst e
    refine r_8_pick_42 F E (fp.la hP) hB ?_
    rw [c2.1]
    exact ⟨rfl, rfl, P1, I1, rfl, fp, fk, c1⟩
  refine r_8_pick_0 F E hP hB (fun z w => ?_) (fun z w => ?_) (fun z => ?_)
  · have s0 : s ≠ 0 := fun y => z (cs.mpr y)
    have ab : a ≠ b := fun y => w (cab.mpr y)
    have rb : ∀ u, (bbB a b s u ∨ bbB b a s u) ↔ Res s a b u := fun u => bb_Res hs s0 ab ha1 hb1
    refine a_callV (b := 116) (As := [.int (nI s), .int (nI a), .int (nI b)]) (st := []) (ci := 8) F (c_8_bearByBoth (xl X) hP (up2 I 116 7 (-1)) A J hB s a b none (fun _ => False) hO hs ha1 ha hb1 hb ht hC (by unfold pkS; exact up2_s) (fun _ z => z) (fun _ z => nomatch z) (fun u h => hd2 u ((rb u).mp (Or.inl h)))) ml_8_129 im_yX8_bearByBoth se_yX8_bearByBoth (by decide) (by decide) rfl (hB _ (by decide)) rfl rfl dX8_pick_32 (by decide) (Nat.le_refl 0) (Nat.le_refl 0) (hl_r (hB _ (by decide)) (hl_i (hl_i (hl_i hl_nil)))) hs_nil ?_
    rintro _ _ _ ⟨rfl, rfl, P1, I1, o1, rfl, fp, fk, c1, c2, c3, c4⟩ _
    refine r_8_pick_35 F (fp.la hP) hB ?_
    refine a_callV (b := 116) (As := [.int (nI s), .int (nI b), .int (nI a)]) (st := []) (ci := 8) F (c_8_bearByBoth (xl X) (fp.la hP) I1 A J hB s b a o1 _ hO hs hb1 hb ha1 ha ht c1 c2 c3 c4 (fun u h => hd2 u ((rb u).mp (Or.inr h)))) ml_8_129 im_yX8_bearByBoth se_yX8_bearByBoth (by decide) (by decide) rfl (hB _ (by decide)) rfl rfl dX8_pick_39 (by decide) (Nat.le_refl 0) (Nat.le_refl 0) (hl_r (hB _ (by decide)) (hl_i (hl_i (hl_i hl_nil)))) hs_nil ?_
    rintro _ _ _ ⟨rfl, rfl, P2, I2, o2, rfl, fp2, fk2, d1, d2, d3, d4⟩ _
    exact fin P2 I2 o2 (fp.tr fp2) ((f0.tr fk).tr fk2) d1 d2 (pkB_cg d3 (fun u => (or_congr ⟨fun e => e.elim False.elim id, Or.inr⟩ Iff.rfl).trans (rb u)))
  · have e : a = b := cab.mp w
    subst e
    have rb : ∀ u, rsB a 4 6 s u ↔ Res s a a u := fun u => rs_Res hs ha1 ha
    refine a_callV (b := 116) (As := [.int (nI s), .int (nI a), .int (nI 4), .int (nI 6)]) (st := []) (ci := 8) F (c_8_bearAlike (xl X) A J hB hO ht a ha1 ha 4 (Nat.le_refl _) P hP (up2 I 116 7 (-1)) s 6 none (fun _ => False) hs (Nat.le_refl _) hC (by unfold pkS; exact up2_s) (fun _ z => z) (fun _ z => nomatch z) (fun u h => hd2 u ((rb u).mp h))) ml_8_125 im_yX8_bearAlike se_yX8_bearAlike (by decide) (by decide) rfl (hB _ (by decide)) rfl rfl dX8_pick_22 (by decide) (Nat.le_refl 0) (Nat.le_refl 0) (hl_r (hB _ (by decide)) (hl_i (hl_i (hl_i hl_nil)))) hs_nil ?_
    rintro _ _ _ ⟨rfl, rfl, P1, I1, o1, rfl, fp, fk, c1, c2, c3, c4⟩ _
    have e := pk_bst hs ha1 hb1 (pkB_cg c3 (fun u => (⟨fun e => e.elim False.elim id, Or.inr⟩ : _ ↔ rsB a 4 6 s u).trans (rb u)))
    subst e
    refine r_8_pick_25 F E (fp.la hP) hB ?_
    rw [c2.1]
    exact ⟨rfl, rfl, P1, I1, rfl, fp, f0.tr fk, c1⟩
  · have e := cs.mp z
    subst e
    exact ⟨by rw [bst_0 ha1 hb1]; rfl, rfl, P, I, rfl, frP.rf P, frK.rf I, hC⟩
