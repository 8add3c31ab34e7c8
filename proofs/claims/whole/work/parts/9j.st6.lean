def bO (x y z : Int32) : Prop := 0 ≤ x ∧ 1 ≤ y ∧ y ≤ 6 ∧ 0 ≤ z ∧ z ≤ 6
def lglI (x y z : Int32) : Prop := lgl x.toNatClampNeg y.toNatClampNeg z.toNatClampNeg
def bvI (x y z : Int32) : Int32 := nI (mvN x.toNatClampNeg y.toNatClampNeg z.toNatClampNeg)
theorem bO_n {s p d : Nat} (hs : s < 2 ^ 31) (h1 : 1 ≤ p) (h2 : p ≤ 6) (hd : d ≤ 6) : bO (nI s) (nI p) (nI d) := ⟨nI_pos' hs, (nI_gen 1 (by omega) (by omega)).mpr h1, (nI_len 6 (by omega) (by omega)).mpr h2, nI_pos' (by omega), (nI_len 6 (by omega) (by omega)).mpr hd⟩
theorem lglI_n {s p d : Nat} (hs : s < 2 ^ 31) (h2 : p ≤ 6) (hd : d ≤ 6) : lglI (nI s) (nI p) (nI d) ↔ lgl s p d := by unfold lglI; rw [nI_clamp hs, nI_clamp (by omega), nI_clamp (by omega)]
theorem bvI_n {s p d : Nat} (hs : s < 2 ^ 31) (h2 : p ≤ 6) (hd : d ≤ 6) : bvI (nI s) (nI p) (nI d) = nI (mvN s p d) := by unfold bvI; rw [nI_clamp hs, nI_clamp (by omega), nI_clamp (by omega)]
theorem bO_of {x y z : Int32} (h : bO x y z) : ∃ s p d, s < 2 ^ 31 ∧ 1 ≤ p ∧ p ≤ 6 ∧ d ≤ 6 ∧ x = nI s ∧ y = nI p ∧ z = nI d := by
  obtain ⟨s, hs, rfl⟩ := nI_of2 (x := x) (M := 2147483647) (n := 2147483647) rfl (Int32.not_lt.mpr h.1) (Int32.le_maxValue x)
  obtain ⟨p, hp, rfl⟩ := nI_of2 (x := y) (M := 6) (n := 6) rfl (by have := h.2.1; grind) h.2.2.1
  obtain ⟨d, hd, rfl⟩ := nI_of2 (x := z) (M := 6) (n := 6) rfl (Int32.not_lt.mpr h.2.2.2.1) h.2.2.2.2
  exact ⟨s, p, d, by omega, (nI_gen 1 (by omega) (by omega)).mp h.2.1, hp, hd, rfl, rfl, rfl⟩
theorem c_8_canBearI (l : Launch) {P O : Nat → Nat → Option Nat} (hP : laP P) (I A : Nat → Nat → Int32) (J : Nat → Nat → Int64) {pl : List Nat} (hB : inB pl) (x y z : Int32) (h : bO x y z) : Con l 1 yX8_canBear cX8_canBear 3 (some .boolean) [.int x, .int y, .int z] (mC P O I A J) pl 0 0 (PC (some (.int (@ite Int32 (lglI x y z) (Classical.propDecidable _) 1 0))) P O I A J pl) := by
  obtain ⟨s, p, d, hs, h1, h2, hd, rfl, rfl, rfl⟩ := bO_of h
  have := c_8_canBear (O := O) l hP I A J hB s p d hs h1 h2 hd
  rw [show lglI (nI s) (nI p) (nI d) = lgl s p d from propext (lglI_n hs h2 hd)]
  exact this
theorem c_8_bearI (l : Launch) {P O : Nat → Nat → Option Nat} (hP : laP P) (I A : Nat → Nat → Int32) (J : Nat → Nat → Int64) {pl : List Nat} (hB : inB pl) (x y z : Int32) (h : bO x y z) (hl : lglI x y z) : Con l 1 yX8_bear cX8_bear 4 (some .int) [.int x, .int y, .int z] (mC P O I A J) pl 0 0 (PC (some (.int (bvI x y z))) P O I A J pl) := by
  obtain ⟨s, p, d, hs, h1, h2, hd, rfl, rfl, rfl⟩ := bO_of h
  rw [bvI_n hs h2 hd]
  exact c_8_bear l hP I A J hB s p d hs hd ((lglI_n hs h2 hd).mp hl)
theorem pkB_cg {o : Option Nat} {S S' : Nat → Prop} (h : pkB o S) (e : ∀ u, S u ↔ S' u) : pkB o S' := by
  have : S = S' := funext (fun u => propext (e u))
  rw [← this]; exact h
theorem csQ8_cg {P O : Nat → Nat → Option Nat} {I A : Nat → Nat → Int32} {J : Nat → Nat → Int64} {pl : List Nat} {S S' : Nat → Prop} {r : Option Value} {σ : HS} {pl' : List Nat} (h : csQ8 P O I A J pl S r σ pl') (e : ∀ u, S u ↔ S' u) : csQ8 P O I A J pl S' r σ pl' := by
  have : S = S' := funext (fun u => propext (e u))
  rw [← this]; exact h
theorem csQ8_fr {P P1 O : Nat → Nat → Option Nat} {I I1 A : Nat → Nat → Int32} {J : Nat → Nat → Int64} {pl : List Nat} {S : Nat → Prop} {r : Option Value} {σ : HS} {pl' : List Nat} (h : csQ8 P1 O I1 A J pl S r σ pl') (fp : frP P P1) (fk : frK I I1) : csQ8 P O I A J pl S r σ pl' := by
  obtain ⟨h1, h2, P2, I2, o, h3, h4, h5, h6⟩ := h
  exact ⟨h1, h2, P2, I2, o, h3, fp.tr h4, fk.tr h5, h6⟩

theorem r_8_bearAlike_0 {X : Ctx} {d8 : Nat} (h8 : 8 ≤ d8) (F : Fx X cX8_bearAlike RX8 6 d8 0 0) {P O : Nat → Nat → Option Nat} (hP : laP P) {I A : Nat → Nat → Int32} {J : Nat → Nat → Int64} {pl : List Nat} (hB : inB pl) {x1 x2 x3 x4 : Int32}
    (e_1 : (x1 = 0) → WA X (mC P O I A J) pl 0 0 10 [(0, .ref 116), (1, .int x1), (2, .int x2), (3, .int x3), (4, .int x4)] [.int x1, .ref 116])
    (e_2 : (¬ (x1 = 0)) → (¬ x3 = 0) → WA X (mC P O I A J) pl 0 0 14 [(0, .ref 116), (1, .int x1), (2, .int x2), (3, .int x3), (4, .int x4)] [])
    (e_3 : (¬ (x1 = 0)) → (x3 = 0) → WA X (mC P O I A J) pl 0 0 10 [(0, .ref 116), (1, .int x1), (2, .int x2), (3, .int x3), (4, .int x4)] [.int x1, .ref 116]) :
    WA X (mC P O I A J) pl 0 0 0 [(0, .ref 116), (1, .int x1), (2, .int x2), (3, .int x3), (4, .int x4)] [] := by
  refine a_iload_n F 1 dX8_bearAlike_0 rfl rfl ?_
  refine a_if_eq (tgt := 8) F dX8_bearAlike_1 (by decide) (fun (c_1 : x1 = 0) => ?_) (fun (c_1 : ¬ (x1 = 0)) => ?_)
  · refine a_aload_n F 0 dX8_bearAlike_8 rfl rfl ?_
    refine a_iload_n F 1 dX8_bearAlike_9 rfl rfl ?_
    exact e_1 c_1
  · refine a_iload_n F 3 dX8_bearAlike_4 rfl rfl ?_
    refine a_if_ne (tgt := 14) F dX8_bearAlike_5 (by decide) (fun (c_2 : ¬ x3 = 0) => ?_) (fun (c_2 : x3 = 0) => ?_)
    · exact e_2 c_1 c_2
    · refine a_aload_n F 0 dX8_bearAlike_8 rfl rfl ?_
      refine a_iload_n F 1 dX8_bearAlike_9 rfl rfl ?_
      exact e_3 c_1 c_2

theorem r_8_bearAlike_14 {X : Ctx} {d8 : Nat} (h8 : 8 ≤ d8) (F : Fx X cX8_bearAlike RX8 6 d8 0 0) {P O : Nat → Nat → Option Nat} (hP : laP P) {I A : Nat → Nat → Int32} {J : Nat → Nat → Int64} {pl : List Nat} (hB : inB pl) {x1 x2 x3 x4 : Int32}
    (e_1 : WA X (mC P O I A J) pl 0 0 17 [(0, .ref 116), (1, .int x1), (2, .int x2), (3, .int x3), (4, .int x4), (5, .int 1)] []) :
    WA X (mC P O I A J) pl 0 0 14 [(0, .ref 116), (1, .int x1), (2, .int x2), (3, .int x3), (4, .int x4)] [] := by
  refine a_iconst (v := 1) F dX8_bearAlike_14 (by decide) ?_
  refine a_istore F dX8_bearAlike_15 (by decide) rfl ?_
  refine a_sub [1, 2, 3, 4, 5, 0] rfl ?_
  exact e_1

theorem r_8_bearAlike_17 {X : Ctx} {d8 : Nat} (h8 : 8 ≤ d8) (F : Fx X cX8_bearAlike RX8 6 d8 0 0) {Φ : Option Value → HS → List Nat → Prop} (E : Ex X none 0 0 Φ) {P O : Nat → Nat → Option Nat} (hP : laP P) {I A : Nat → Nat → Int32} {J : Nat → Nat → Int64} {pl : List Nat} (hB : inB pl) {x1 x2 x3 x4 x5 : Int32}
    (e_1 : (x4 < x5) → Φ none (mC P O I A J) pl)
    (o_2 : (¬ (x4 < x5)) → bO x1 x5 x2)
    (o_3 : (¬ (x4 < x5)) → (lglI x1 x5 x2) → bO x1 x5 x2)
    (o_4 : (¬ (x4 < x5)) → (lglI x1 x5 x2) → lglI x1 x5 x2)
    (e_5 : (¬ (x4 < x5)) → (lglI x1 x5 x2) → WA X (mC P O I A J) pl 0 0 48 [(0, .ref 116), (1, .int x1), (2, .int x2), (3, .int x3), (4, .int x4), (5, .int x5)] [.int x5, .int (x3 - 1), .int x2, .int (bvI x1 x5 x2), .ref 116])
    (e_6 : (¬ (x4 < x5)) → (¬ (lglI x1 x5 x2)) → WA X (mC P O I A J) pl 0 0 17 [(0, .ref 116), (1, .int x1), (2, .int x2), (3, .int x3), (4, .int x4), (5, .int (x5 + 1))] []) :
    WA X (mC P O I A J) pl 0 0 17 [(0, .ref 116), (1, .int x1), (2, .int x2), (3, .int x3), (4, .int x4), (5, .int x5)] [] := by
  refine a_iload F 5 dX8_bearAlike_17 rfl ?_
  refine a_iload F 4 dX8_bearAlike_19 rfl ?_
  refine a_icmp_gt (tgt := 57) F dX8_bearAlike_21 (by decide) (fun (c_3 : x4 < x5) => ?_) (fun (c_3 : ¬ (x4 < x5)) => ?_)
  · exact a_vret F E dX8_bearAlike_57 (Nat.le_refl 0) (Nat.le_refl 0) (e_1 c_3)
  · refine a_iload_n F 1 dX8_bearAlike_24 rfl rfl ?_
    refine a_iload F 5 dX8_bearAlike_25 rfl ?_
    refine a_iload_n F 2 dX8_bearAlike_27 rfl rfl ?_
    refine a_callS (As := [.int x1, .int x5, .int x2]) (st := []) F (c_8_canBearI (xl X) hP I A J hB x1 x5 x2 (o_2 c_3)) ml_8_136 sm_yX8_canBear (by omega) rfl dX8_bearAlike_28 (by decide) (Nat.le_refl 0) (Nat.le_refl 0) (hl_r (hB _ (by decide)) (hl_i (hl_i (hl_i (hl_i (hl_i hl_nil)))))) hs_nil ?_
    rintro _ _ _ ⟨rfl, rfl, rfl⟩ _
    show WA X (mC P O I A J) pl 0 0 31 [(0, .ref 116), (1, .int x1), (2, .int x2), (3, .int x3), (4, .int x4), (5, .int x5)] [.int (@ite Int32 (lglI x1 x5 x2) (Classical.propDecidable _) 1 0)]
    refine a_ite (fun (c_4 : lglI x1 x5 x2) => ?_) (fun (c_4 : ¬ (lglI x1 x5 x2)) => ?_)
    · refine a_if_eq (tgt := 51) F dX8_bearAlike_31 (by decide) (fun (c_5 : (1 : Int32) = 0) => ?_) (fun (c_5 : ¬ ((1 : Int32) = 0)) => ?_)
      · exact absurd c_5 (by decide)
      · refine a_aload_n F 0 dX8_bearAlike_34 rfl rfl ?_
        refine a_iload_n F 1 dX8_bearAlike_35 rfl rfl ?_
        refine a_iload F 5 dX8_bearAlike_36 rfl ?_
        refine a_iload_n F 2 dX8_bearAlike_38 rfl rfl ?_
        refine a_callS (As := [.int x1, .int x5, .int x2]) (st := [.ref 116]) F (c_8_bearI (xl X) hP I A J hB x1 x5 x2 (o_3 c_3 c_4) (o_4 c_3 c_4)) ml_8_140 sm_yX8_bear (by omega) rfl dX8_bearAlike_39 (Nat.le_of_ble_eq_true rfl) (Nat.le_refl 0) (Nat.le_refl 0) (hl_r (hB _ (by decide)) (hl_i (hl_i (hl_i (hl_i (hl_i hl_nil)))))) (hs_r (hB _ (by decide)) hs_nil) ?_
        rintro _ _ _ ⟨rfl, rfl, rfl⟩ _
        show WA X (mC P O I A J) pl 0 0 42 [(0, .ref 116), (1, .int x1), (2, .int x2), (3, .int x3), (4, .int x4), (5, .int x5)] [.int (bvI x1 x5 x2), .ref 116]
        refine a_iload_n F 2 dX8_bearAlike_42 rfl rfl ?_
        refine a_iload_n F 3 dX8_bearAlike_43 rfl rfl ?_
        refine a_iconst (v := 1) F dX8_bearAlike_44 (by decide) ?_
        refine a_isub F dX8_bearAlike_45 ?_
        refine a_iload F 5 dX8_bearAlike_46 rfl ?_
        exact e_5 c_3 c_4
    · refine a_if_eq (tgt := 51) F dX8_bearAlike_31 (by decide) (fun (c_6 : (0 : Int32) = 0) => ?_) (fun (c_6 : ¬ ((0 : Int32) = 0)) => ?_)
      · refine a_iinc (v := x5 + 1) F 5 dX8_bearAlike_51 rfl rfl (by decide) rfl ?_
        refine a_goto (tgt := 17) F dX8_bearAlike_54 (by decide) ?_
        refine a_sub [1, 2, 3, 4, 5, 0] rfl ?_
        exact e_6 c_3 c_4
      · exact absurd c_6 (by decide)

theorem r_8_bearAlike_13 {X : Ctx} {d8 : Nat} (h8 : 8 ≤ d8) (F : Fx X cX8_bearAlike RX8 6 d8 0 0) {Φ : Option Value → HS → List Nat → Prop} (E : Ex X none 0 0 Φ) {P O : Nat → Nat → Option Nat} (hP : laP P) {I A : Nat → Nat → Int32} {J : Nat → Nat → Int64} {pl : List Nat} (hB : inB pl) {x1 x2 x3 x4 : Int32}
    (e_1 : Φ none (mC P O I A J) pl) :
    WA X (mC P O I A J) pl 0 0 13 [(0, .ref 116), (1, .int x1), (2, .int x2), (3, .int x3), (4, .int x4)] [] := by
  exact a_vret F E dX8_bearAlike_13 (Nat.le_refl 0) (Nat.le_refl 0) (e_1)

theorem r_8_bearAlike_51 {X : Ctx} {d8 : Nat} (h8 : 8 ≤ d8) (F : Fx X cX8_bearAlike RX8 6 d8 0 0) {P O : Nat → Nat → Option Nat} (hP : laP P) {I A : Nat → Nat → Int32} {J : Nat → Nat → Int64} {pl : List Nat} (hB : inB pl) {x1 x2 x3 x4 x5 : Int32}
    (e_1 : WA X (mC P O I A J) pl 0 0 17 [(0, .ref 116), (1, .int x1), (2, .int x2), (3, .int x3), (4, .int x4), (5, .int (x5 + 1))] []) :
    WA X (mC P O I A J) pl 0 0 51 [(0, .ref 116), (1, .int x1), (2, .int x2), (3, .int x3), (4, .int x4), (5, .int x5)] [] := by
  refine a_iinc (v := x5 + 1) F 5 dX8_bearAlike_51 rfl rfl (by decide) rfl ?_
  refine a_goto (tgt := 17) F dX8_bearAlike_54 (by decide) ?_
  refine a_sub [1, 2, 3, 4, 5, 0] rfl ?_
  exact e_1

set_option maxRecDepth 100000 in
theorem c_8_bearAlike (l : Launch) {O : Nat → Nat → Option Nat} (A : Nat → Nat → Int32) (J : Nat → Nat → Int64) {pl : List Nat} (hB : inB pl) (hO : shO O pl) (ht : rkT (A 118)) (d : Nat) (hd1 : 1 ≤ d) (hd6 : d ≤ 6) : ∀ n, n ≤ 4 → ∀ (P : Nat → Nat → Option Nat) (hP : laP P) (I : Nat → Nat → Int32) (s top : Nat) (o : Option Nat) (S : Nat → Prop), stnd s → top ≤ 6 → clC P O pl → pkS P I o → pkB o S → (∀ t, o = some t → stnd t ∧ dnC O J t) → (∀ u, rsB d n top s u → stnd u ∧ dnC O J u) → Con l (n + 8) yX8_bearAlike cX8_bearAlike 6 none [.ref 116, .int (nI s), .int (nI d), .int (nI n), .int (nI top)] (mC P O I A J) pl 0 0 (csQ8 P O I A J pl (fun u => S u ∨ rsB d n top s u)) := by
  intro n
  induction n with
  | zero =>
    intro _ P hP I s top o S hs htop hC hpk hpb hto hdn
    refine Con.of (by decide) (Nat.le_of_ble_eq_true rfl) (fun X hX9 hn9 F E => ?_)
    have hs2 : s < 2 ^ 31 := by have := hs.1; omega
    have fin : WA X (mC P O I A J) pl 0 0 10 [(0, .ref 116), (1, .int (nI s)), (2, .int (nI d)), (3, .int (nI 0)), (4, .int (nI top))] [.int (nI s), .ref 116] := by
      refine a_callV (b := 116) (As := [.int (nI s)]) (st := []) (ci := 8) F (c_8_consider (xl X) hP I A J hB s o S hO hs (hdn s rfl).2 ht hC hpk hpb hto) ml_8_133 im_yX8_consider se_yX8_consider (by decide) (by decide) rfl (hB _ (by decide)) rfl rfl dX8_bearAlike_10 (by decide) (Nat.le_refl 0) (Nat.le_refl 0) (hl_r (hB _ (by decide)) (hl_i (hl_i (hl_i (hl_i hl_nil))))) hs_nil ?_
      rintro _ _ _ ⟨rfl, rfl, P', I', o', rfl, h⟩ _
      exact r_8_bearAlike_13 (by omega) F E (h.1.la hP) hB ⟨rfl, rfl, P', I', o', rfl, h⟩
    refine r_8_bearAlike_0 (by omega) F hP hB (fun _ => fin) (fun _ z => absurd rfl z) (fun _ _ => fin)
  | succ n ih =>
    intro hn P hP I s top o S hs htop hC hpk hpb hto hdn
    refine Con.of (by decide) (Nat.le_of_ble_eq_true rfl) (fun X hX9 hn9 F E => ?_)
    have hs2 : s < 2 ^ 31 := by have := hs.1; omega
    have cs : nI s = 0 ↔ s = 0 := nI_z hs2
    have n0 : ¬ nI (n + 1) = 0 := fun z => by have := (nI_z (by omega)).mp z; omega
    refine r_8_bearAlike_0 (by omega) F hP hB (fun z => ?_) (fun z _ => ?_) (fun _ z => absurd z n0)
    · have z := cs.mp z
      refine a_callV (b := 116) (As := [.int (nI s)]) (st := []) (ci := 8) F (c_8_consider (xl X) hP I A J hB s o S hO hs (hdn s (Or.inl ⟨z, z⟩)).2 ht hC hpk hpb hto) ml_8_133 im_yX8_consider se_yX8_consider (by omega) (by decide) rfl (hB _ (by decide)) rfl rfl dX8_bearAlike_10 (by decide) (Nat.le_refl 0) (Nat.le_refl 0) (hl_r (hB _ (by decide)) (hl_i (hl_i (hl_i (hl_i hl_nil))))) hs_nil ?_
      rintro _ _ _ ⟨rfl, rfl, P', I', o', rfl, h⟩ _
      refine r_8_bearAlike_13 (by omega) F E (h.1.la hP) hB (csQ8_cg (S := fun u => S u ∨ u = s) ⟨rfl, rfl, P', I', o', rfl, h⟩ (fun u => or_congr Iff.rfl ⟨fun e => Or.inl ⟨z, e.trans z⟩, fun e => ?_⟩))
      rcases e with e | e
      · rw [z]; exact e.2
      · exact absurd z e.1
    · have s0 : s ≠ 0 := fun y => z (cs.mpr y)
      have lp : ∀ f p (P1 : Nat → Nat → Option Nat) (I1 : Nat → Nat → Int32) (o1 : Option Nat), p + f = top + 1 → 1 ≤ p → frP P P1 → frK I I1 → clC P1 O pl → pkS P1 I1 o1 → pkB o1 (fun u => S u ∨ ∃ q, 1 ≤ q ∧ q < p ∧ lgl s q d ∧ rsB d n q (mvN s q d) u) → (∀ t, o1 = some t → stnd t ∧ dnC O J t) → WA X (mC P1 O I1 A J) pl 0 0 17 [(0, .ref 116), (1, .int (nI s)), (2, .int (nI d)), (3, .int (nI (n + 1))), (4, .int (nI top)), (5, .int (nI p))] [] := by
        intro f
        induction f with
        | zero =>
          intro p P1 I1 o1 hp p1 fp fk c1 c2 c3 c4
          obtain rfl : p = top + 1 := by omega
          have lt : nI top < nI (top + 1) := (nI_ltI (by omega) (by omega)).mpr (by omega)
          refine r_8_bearAlike_17 (by omega) F E (fp.la hP) hB (fun _ => ?_) (fun z => absurd lt z) (fun z => absurd lt z) (fun z => absurd lt z) (fun z => absurd lt z) (fun z => absurd lt z)
          refine ⟨rfl, rfl, P1, I1, o1, rfl, fp, fk, c1, c2, pkB_cg c3 (fun u => or_congr Iff.rfl ⟨fun ⟨q, a, b, c, e⟩ => Or.inr ⟨s0, q, a, by omega, c, e⟩, fun e => ?_⟩), c4⟩
          rcases e with e | ⟨-, q, a, b, c, e⟩
          · exact absurd e.1 s0
          · exact ⟨q, a, by omega, c, e⟩
        | succ f ihf =>
          intro p P1 I1 o1 hp p1 fp fk c1 c2 c3 c4
          have nlt : ¬ nI top < nI p := fun z => by have := (nI_ltI (by omega) (by omega)).mp z; omega
          have ob := bO_n (s := s) (p := p) (d := d) hs2 p1 (by omega) hd6
          have lg := lglI_n (s := s) (p := p) (d := d) hs2 (by omega) hd6
          refine r_8_bearAlike_17 (by omega) F E (fp.la hP) hB (fun z => absurd z nlt) (fun _ => ob) (fun _ _ => ob) (fun _ z => z) (fun _ z => ?_) (fun _ z => ?_)
          · have hl := lg.mp z
            rw [bvI_n hs2 (by omega) hd6, show nI (n + 1) - 1 = nI n from pk_sub (a := n + 1) (b := 1) (by omega)]
            have hs3 := (lgl_mv hs hd1 hl).1
            refine a_callV (b := 116) (As := [.int (nI (mvN s p d)), .int (nI d), .int (nI n), .int (nI p)]) (st := []) (ci := 8) F (hX9 ▸ ih (by omega) P1 (fp.la hP) I1 (mvN s p d) p o1 _ hs3 (by omega) c1 c2 c3 c4 (fun u hu => hdn u (Or.inr ⟨s0, p, p1, by omega, hl, hu⟩))) ml_8_125 im_yX8_bearAlike se_yX8_bearAlike (by omega) (by decide) rfl (hB _ (by decide)) rfl rfl dX8_bearAlike_48 (by decide) (Nat.le_refl 0) (Nat.le_refl 0) (hl_r (hB _ (by decide)) (hl_i (hl_i (hl_i (hl_i (hl_i hl_nil)))))) hs_nil ?_
            rintro _ _ _ ⟨rfl, rfl, P2, I2, o2, rfl, g1, g2, g3, g4, g5, g6⟩ _
            refine r_8_bearAlike_51 (by omega) F ((fp.tr g1).la hP) hB ?_
            rw [nI_1]
            refine ihf (p + 1) P2 I2 o2 (by omega) (by omega) (fp.tr g1) (fk.tr g2) g3 g4 (pkB_cg g5 (fun u => ?_)) g6
            constructor
            · rintro ((e | ⟨q, a, b, c, e⟩) | e)
              · exact Or.inl e
              · exact Or.inr ⟨q, a, by omega, c, e⟩
              · exact Or.inr ⟨p, p1, by omega, hl, e⟩
            · rintro (e | ⟨q, a, b, c, e⟩)
              · exact Or.inl (Or.inl e)
              · by_cases y : q = p
                · subst y; exact Or.inr e
                · exact Or.inl (Or.inr ⟨q, a, by omega, c, e⟩)
          · rw [nI_1]
            refine ihf (p + 1) P1 I1 o1 (by omega) (by omega) fp fk c1 c2 (pkB_cg c3 (fun u => or_congr Iff.rfl ⟨fun ⟨q, a, b, c, e⟩ => ⟨q, a, by omega, c, e⟩, fun ⟨q, a, b, c, e⟩ => ⟨q, a, ?_, c, e⟩⟩)) c4
            by_cases y : q = p
            · subst y; exact absurd (lg.mpr c) z
            · omega
      refine r_8_bearAlike_14 (by omega) F hP hB ?_
      refine lp top 1 P I o (by omega) (Nat.le_refl _) (frP.rf P) (frK.rf I) hC hpk (pkB_cg hpb (fun u => ⟨Or.inl, fun e => e.elim id (fun ⟨q, a, b, _⟩ => by omega)⟩)) hto
