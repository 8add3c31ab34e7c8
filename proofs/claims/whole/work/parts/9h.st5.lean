/-- what is picked -/
def pkS (P : Nat → Nat → Option Nat) (I : Nat → Nat → Int32) (o : Option Nat) : Prop := match o with
  | none => I 116 7 = -1
  | some t => I 116 7 = nI t ∧ P 116 9 = some (1000 + 2 * (rkN t / 64)) ∧ I 116 8 = nI (18 * (rkN t % 64))
def bet (s t : Nat) : Prop := eF 32 s < eF 32 t ∨ (eF 32 s = eF 32 t ∧ t ≤ s)
/-- the best one of those seen -/
def pkB (o : Option Nat) (S : Nat → Prop) : Prop := match o with
  | none => ∀ u, ¬ S u
  | some t => S t ∧ ∀ u, S u → bet t u
def frP (P P' : Nat → Nat → Option Nat) : Prop := ∀ q k, ¬ (q = 116 ∧ k = 9) → P' q k = P q k
def frK (I I' : Nat → Nat → Int32) : Prop := ∀ q k, ¬ (q = 116 ∧ 7 ≤ k ∧ k ≤ 8) → I' q k = I q k
theorem frP.la {P P' : Nat → Nat → Option Nat} (h : frP P P') (hP : laP P) : laP P' := fun p k hk => by
  rw [h p k (fun z => hk (by rw [z.1, z.2]; rfl))]; exact hP p k hk
theorem frP.tr {P P' P2 : Nat → Nat → Option Nat} (h : frP P P') (h2 : frP P' P2) : frP P P2 := fun q k hk => (h2 q k hk).trans (h q k hk)
theorem frK.tr {I I' I2 : Nat → Nat → Int32} (h : frK I I') (h2 : frK I' I2) : frK I I2 := fun q k hk => (h2 q k hk).trans (h q k hk)
theorem frP.rf (P : Nat → Nat → Option Nat) : frP P P := fun _ _ _ => rfl
theorem frK.rf (I : Nat → Nat → Int32) : frK I I := fun _ _ _ => rfl
theorem frP.cl {P P' O : Nat → Nat → Option Nat} {pl : List Nat} (h : frP P P') (hC : clC P O pl) (h9 : ∀ b, P' 116 9 = some b → b ∈ pl) : clC P' O pl := fun q hq => by
  refine ⟨fun k b hk hb => ?_, (hC q hq).2⟩
  by_cases c : q = 116 ∧ k = 9
  · rw [c.1, c.2] at hb; exact h9 b hb
  · rw [h q k c] at hb; exact (hC q hq).1 k b hk hb
def csQ8 (P O : Nat → Nat → Option Nat) (I A : Nat → Nat → Int32) (J : Nat → Nat → Int64) (pl : List Nat) (S : Nat → Prop) : Option Value → HS → List Nat → Prop := fun r σ' pl' => r = none ∧ pl = pl' ∧ ∃ P' I' o', σ' = mC P' O I' A J ∧ frP P P' ∧ frK I I' ∧ clC P' O pl ∧ pkS P' I' o' ∧ pkB o' S ∧ ∀ t, o' = some t → stnd t ∧ dnC O J t
theorem bet_rf (s : Nat) : bet s s := Or.inr ⟨rfl, Nat.le_refl _⟩
theorem bet_tr {a b c : Nat} (h : bet a b) (h2 : bet b c) : bet a c := by unfold bet at *; omega
theorem pkB_add {o : Option Nat} {S : Nat → Prop} {s : Nat} (h : pkB o S) : (∀ t, o = some t → bet t s) → o ≠ none → pkB o (fun u => S u ∨ u = s) := fun h1 h2 => by
  cases o with
  | none => exact absurd rfl h2
  | some t => exact ⟨Or.inl h.1, fun u hu => hu.elim (h.2 u) (fun e => e ▸ h1 t rfl)⟩
theorem pkB_new {o : Option Nat} {S : Nat → Prop} {s : Nat} (h : pkB o S) (h1 : ∀ t, o = some t → bet s t) : pkB (some s) (fun u => S u ∨ u = s) := by
  refine ⟨Or.inr rfl, fun u hu => hu.elim (fun hu => ?_) (fun e => e ▸ bet_rf s)⟩
  cases o with
  | none => exact absurd hu (h u)
  | some t => exact bet_tr (h1 t rfl) (h.2 u hu)
theorem bet_or (s t : Nat) : bet s t ∨ bet t s := by unfold bet; omega

theorem r_8_consider_0 {X : Ctx} (F : Fx X cX8_consider RX8 6 2 0 0) {Φ : Option Value → HS → List Nat → Prop} (E : Ex X none 0 0 Φ) {P O : Nat → Nat → Option Nat} (hP : laP P) {I A : Nat → Nat → Int32} {J : Nat → Nat → Int64} {pl : List Nat} (hB : inB pl) {x1 : Int32}
    (e_1 : (¬ x1 = (I 116 7)) → WA X (mC P O I A J) pl 0 0 9 [(0, .ref 116), (1, .int x1)] [])
    (e_2 : (x1 = (I 116 7)) → Φ none (mC P O I A J) pl) :
    WA X (mC P O I A J) pl 0 0 0 [(0, .ref 116), (1, .int x1)] [] := by
  refine a_iload_n F 1 dX8_consider_0 rfl rfl ?_
  refine a_aload_n F 0 dX8_consider_1 rfl rfl ?_
  refine a_geti F fl_8_121 rfl (hB _ (by decide)) rfl dX8_consider_2 ?_
  refine a_icmp_ne (tgt := 9) F dX8_consider_5 (by decide) (fun (c_1 : ¬ x1 = (I 116 7)) => ?_) (fun (c_1 : x1 = (I 116 7)) => ?_)
  · exact e_1 c_1
  · exact a_vret F E dX8_consider_8 (Nat.le_refl 0) (Nat.le_refl 0) (e_2 c_1)

theorem r_8_consider_9 {X : Ctx} (F : Fx X cX8_consider RX8 6 2 0 0) {P O : Nat → Nat → Option Nat} (hP : laP P) {I A : Nat → Nat → Int32} {J : Nat → Nat → Int64} {pl : List Nat} (hB : inB pl) {x1 : Int32}
    (o_1 : stdI x1)
    (o_2 : rkT (A 118))
    (e_3 : WA X (mC P O I A J) pl 0 0 15 [(0, .ref 116), (1, .int x1), (2, .int (rkI x1))] []) :
    WA X (mC P O I A J) pl 0 0 9 [(0, .ref 116), (1, .int x1)] [] := by
  refine a_aload_n F 0 dX8_consider_9 rfl rfl ?_
  refine a_iload_n F 1 dX8_consider_10 rfl rfl ?_
  refine a_callV (b := 116) (As := [.int x1]) (st := []) (ci := 8) F (c_8_rankOfI (xl X) hP I A J hB x1 (o_1) (o_2)) ml_8_74 im_yX8_rankOf se_yX8_rankOf (by decide) (by decide) rfl (hB _ (by decide)) rfl rfl dX8_consider_11 (by decide) (Nat.le_refl 0) (Nat.le_refl 0) (hl_r (hB _ (by decide)) (hl_i hl_nil)) hs_nil ?_
  rintro _ _ _ ⟨rfl, rfl, rfl⟩ _
  show WA X (mC P O I A J) pl 0 0 14 [(0, .ref 116), (1, .int x1)] [.int (rkI x1)]
  refine a_istore_n F dX8_consider_14 rfl (by decide) rfl ?_
  refine a_sub [1, 2, 0] rfl ?_
  exact e_3

theorem r_8_consider_15 {X : Ctx} (F : Fx X cX8_consider RX8 6 2 0 0) {P O : Nat → Nat → Option Nat} (hP : laP P) {I A : Nat → Nat → Int32} {J : Nat → Nat → Int64} {pl : List Nat} (hB : inB pl) {x1 x2 : Int32}
    (e_1 : WA X (mC P O I A J) pl 0 0 17 [(0, .ref 116), (1, .int x1), (2, .int x2)] [.int x2, .ref 116]) :
    WA X (mC P O I A J) pl 0 0 15 [(0, .ref 116), (1, .int x1), (2, .int x2)] [] := by
  refine a_aload_n F 0 dX8_consider_15 rfl rfl ?_
  refine a_iload_n F 2 dX8_consider_16 rfl rfl ?_
  exact e_1

theorem r_8_consider_26 {X : Ctx} (F : Fx X cX8_consider RX8 6 2 0 0) {P O : Nat → Nat → Option Nat} (hP : laP P) {I A : Nat → Nat → Int32} {J : Nat → Nat → Int64} {pl : List Nat} (hB : inB pl) {x1 x2 : Int32} {q9 : Nat} (hk_q9 : kC q9 = 7) (hp_q9 : q9 ∈ pl) (hq_q9 : q9 + 1 ∈ pl)
    (o_1 : 0 ≤ x2)
    (e_2 : ((I 116 7) = (-1)) → WA X (mC P O I A J) pl 0 0 88 [(0, .ref 116), (1, .int x1), (2, .int x2), (3, .ref q9), (4, .int (ceI x2))] [])
    (e_3 : (¬ ((I 116 7) = (-1))) → WA X (mC P O I A J) pl 0 0 41 [(4, .int (ceI x2)), (0, .ref 116), (1, .int x1), (2, .int x2), (3, .ref q9)] [.ref 116]) :
    WA X (mC P O I A J) pl 0 0 26 [(0, .ref 116), (1, .int x1), (2, .int x2), (3, .ref q9)] [] := by
  refine a_iload_n F 2 dX8_consider_26 rfl rfl ?_
  refine a_callS (As := [.int x2]) (st := []) F (c_8_cellOfI (xl X) hP I A J hB x2 (o_1)) ml_8_85 sm_yX8_cellOf (by decide) rfl dX8_consider_27 (by decide) (Nat.le_refl 0) (Nat.le_refl 0) (hl_r (hB _ (by decide)) (hl_i (hl_i (hl_r (hp_q9) hl_nil)))) hs_nil ?_
  rintro _ _ _ ⟨rfl, rfl, rfl⟩ _
  show WA X (mC P O I A J) pl 0 0 30 [(0, .ref 116), (1, .int x1), (2, .int x2), (3, .ref q9)] [.int (ceI x2)]
  refine a_istore F dX8_consider_30 (by decide) rfl ?_
  refine a_aload_n F 1 dX8_consider_32 rfl rfl ?_
  refine a_geti F fl_8_121 rfl (hB _ (by decide)) rfl dX8_consider_33 ?_
  refine a_iconst (v := (-1)) F dX8_consider_36 (by decide) ?_
  refine a_icmp_eq (tgt := 88) F dX8_consider_37 (by decide) (fun (c_2 : (I 116 7) = (-1)) => ?_) (fun (c_2 : ¬ ((I 116 7) = (-1))) => ?_)
  · refine a_sub [1, 2, 3, 4, 0] rfl ?_
    exact e_2 c_2
  · refine a_aload_n F 1 dX8_consider_40 rfl rfl ?_
    exact e_3 c_2

theorem r_8_consider_88 {X : Ctx} (F : Fx X cX8_consider RX8 6 2 0 0) {P O : Nat → Nat → Option Nat} (hP : laP P) {I A : Nat → Nat → Int32} {J : Nat → Nat → Int64} {pl : List Nat} (hB : inB pl) {x1 x2 x4 : Int32} {q9 : Nat} (hk_q9 : kC q9 = 7) (hp_q9 : q9 ∈ pl) (hq_q9 : q9 + 1 ∈ pl)
    (e_1 : WA X (mC P O (up2 I 116 7 x1) A J) pl 0 0 95 [(0, .ref 116), (1, .int x1), (2, .int x2), (3, .ref q9), (4, .int x4)] [.ref q9, .ref 116]) :
    WA X (mC P O I A J) pl 0 0 88 [(0, .ref 116), (1, .int x1), (2, .int x2), (3, .ref q9), (4, .int x4)] [] := by
  refine a_aload_n F 0 dX8_consider_88 rfl rfl ?_
  refine a_iload_n F 1 dX8_consider_89 rfl rfl ?_
  refine a_puti F fl_8_121 rfl rfl rfl rfl (hB _ (by decide)) rfl dX8_consider_90 ?_
  refine a_aload_n F 0 dX8_consider_93 rfl rfl ?_
  refine a_aload_n F 3 dX8_consider_94 rfl rfl ?_
  exact e_1

theorem r_8_consider_20 {X : Ctx} (F : Fx X cX8_consider RX8 6 2 0 0) {P O : Nat → Nat → Option Nat} (hP : laP P) {I A : Nat → Nat → Int32} {J : Nat → Nat → Int64} {pl : List Nat} (hB : inB pl) {x1 x2 : Int32} {q9 : Nat} (hk_q9 : kC q9 = 7) (hp_q9 : q9 ∈ pl) (hq_q9 : q9 + 1 ∈ pl)
    (e_1 : WA X (mC P O I A J) pl 0 0 26 [(0, .ref 116), (1, .int x1), (2, .int x2), (3, .ref q9)] []) :
    WA X (mC P O I A J) pl 0 0 20 [(0, .ref 116), (1, .int x1), (2, .int x2)] [.ref q9] := by
  refine a_astore_n F dX8_consider_20 rfl (by decide) rfl ?_
  refine a_aload_n F 0 dX8_consider_21 rfl rfl ?_
  refine a_ifnonnull (tgt := 26) F dX8_consider_22 (by decide) ?_
  refine a_sub [1, 2, 3, 0] rfl ?_
  exact e_1

theorem r_8_consider_44 {X : Ctx} (F : Fx X cX8_consider RX8 6 2 0 0) {P O : Nat → Nat → Option Nat} (hP : laP P) {I A : Nat → Nat → Int32} {J : Nat → Nat → Int64} {pl : List Nat} (hB : inB pl) {x1 x2 x4 : Int32} {q9 : Nat} (hk_q9 : kC q9 = 7) (hp_q9 : q9 ∈ pl) (hq_q9 : q9 + 1 ∈ pl) {q8 : Nat} (hk_q8 : kC q8 = 7) (hp_q8 : q8 ∈ pl) (hq_q8 : q8 + 1 ∈ pl)
    (e_1 : WA X (mC P O I A J) pl 0 0 54 [(0, .ref 116), (1, .int x1), (2, .int x2), (3, .ref q9), (4, .int x4)] [.ref 116, .int x4, .ref (q9 + 1)]) :
    WA X (mC P O I A J) pl 0 0 44 [(0, .ref 116), (1, .int x1), (2, .int x2), (3, .ref q9), (4, .int x4)] [.ref q8] := by
  refine a_ifnull F dX8_consider_44 ?_
  refine a_aload_n F 3 dX8_consider_47 rfl rfl ?_
  refine a_getr (b := (q9 + 1)) F fl_8_82 rfl (hp_q9) hk_q9 (laP_sh hP hk_q9) dX8_consider_48 ?_
  refine a_iload F 4 dX8_consider_51 rfl ?_
  refine a_aload_n F 0 dX8_consider_53 rfl rfl ?_
  exact e_1

theorem r_8_consider_57 {X : Ctx} (F : Fx X cX8_consider RX8 6 2 0 0) {P O : Nat → Nat → Option Nat} (hP : laP P) {I A : Nat → Nat → Int32} {J : Nat → Nat → Int64} {pl : List Nat} (hB : inB pl) {x1 x2 x4 x8 : Int32} {q9 : Nat} (hk_q9 : kC q9 = 7) (hp_q9 : q9 ∈ pl) (hq_q9 : q9 + 1 ∈ pl) {q8 : Nat} (hk_q8 : kC q8 = 7) (hp_q8 : q8 ∈ pl) (hq_q8 : q8 + 1 ∈ pl)
    (e_1 : WA X (mC P O I A J) pl 0 0 64 [(0, .ref 116), (1, .int x1), (2, .int x2), (3, .ref q9), (4, .int x4)] [.int (I 116 8), .ref (q8 + 1), .int x8, .ref (q9 + 1)]) :
    WA X (mC P O I A J) pl 0 0 57 [(0, .ref 116), (1, .int x1), (2, .int x2), (3, .ref q9), (4, .int x4)] [.ref q8, .int x8, .ref (q9 + 1)] := by
  refine a_getr (b := (q8 + 1)) F fl_8_82 rfl (hp_q8) hk_q8 (laP_sh hP hk_q8) dX8_consider_57 ?_
  refine a_aload_n F 0 dX8_consider_60 rfl rfl ?_
  refine a_geti F fl_8_147 rfl (hB _ (by decide)) rfl dX8_consider_61 ?_
  exact e_1

theorem r_8_consider_67 {X : Ctx} (F : Fx X cX8_consider RX8 6 2 0 0) {Φ : Option Value → HS → List Nat → Prop} (E : Ex X none 0 0 Φ) {P O : Nat → Nat → Option Nat} (hP : laP P) {I A : Nat → Nat → Int32} {J : Nat → Nat → Int64} {pl : List Nat} (hB : inB pl) {x1 x2 x4 b1 : Int32} {q9 : Nat} (hk_q9 : kC q9 = 7) (hp_q9 : q9 ∈ pl) (hq_q9 : q9 + 1 ∈ pl)
    (e_1 : (0 < b1) → Φ none (mC P O I A J) pl)
    (e_2 : (¬ (0 < b1)) → (¬ b1 = 0) → WA X (mC P O I A J) pl 0 0 88 [(0, .ref 116), (1, .int x1), (2, .int x2), (3, .ref q9), (4, .int x4)] [])
    (e_3 : (¬ (0 < b1)) → (b1 = 0) → ((I 116 7) ≤ x1) → WA X (mC P O I A J) pl 0 0 88 [(0, .ref 116), (1, .int x1), (2, .int x2), (3, .ref q9), (4, .int x4)] [])
    (e_4 : (¬ (0 < b1)) → (b1 = 0) → (¬ ((I 116 7) ≤ x1)) → Φ none (mC P O I A J) pl) :
    WA X (mC P O I A J) pl 0 0 67 [(0, .ref 116), (1, .int x1), (2, .int x2), (3, .ref q9), (4, .int x4)] [.int b1] := by
  refine a_istore F dX8_consider_67 (by decide) rfl ?_
  refine a_iload F 0 dX8_consider_69 rfl ?_
  refine a_if_gt (tgt := 87) F dX8_consider_71 (by decide) (fun (c_3 : 0 < b1) => ?_) (fun (c_3 : ¬ (0 < b1)) => ?_)
  · exact a_vret F E dX8_consider_87 (Nat.le_refl 0) (Nat.le_refl 0) (e_1 c_3)
  · refine a_iload F 0 dX8_consider_74 rfl ?_
    refine a_if_ne (tgt := 88) F dX8_consider_76 (by decide) (fun (c_4 : ¬ b1 = 0) => ?_) (fun (c_4 : b1 = 0) => ?_)
    · refine a_sub [1, 2, 3, 4, 5] rfl ?_
      exact e_2 c_3 c_4
    · refine a_iload_n F 2 dX8_consider_79 rfl rfl ?_
      refine a_aload_n F 1 dX8_consider_80 rfl rfl ?_
      refine a_geti F fl_8_121 rfl (hB _ (by decide)) rfl dX8_consider_81 ?_
      refine a_icmp_ge (tgt := 88) F dX8_consider_84 (by decide) (fun (c_5 : (I 116 7) ≤ x1) => ?_) (fun (c_5 : ¬ ((I 116 7) ≤ x1)) => ?_)
      · refine a_sub [1, 2, 3, 4, 5] rfl ?_
        exact e_3 c_3 c_4 c_5
      · exact a_vret F E dX8_consider_87 (Nat.le_refl 0) (Nat.le_refl 0) (e_4 c_3 c_4 c_5)

theorem r_8_consider_98 {X : Ctx} (F : Fx X cX8_consider RX8 6 2 0 0) {Φ : Option Value → HS → List Nat → Prop} (E : Ex X none 0 0 Φ) {P O : Nat → Nat → Option Nat} (hP : laP P) {I A : Nat → Nat → Int32} {J : Nat → Nat → Int64} {pl : List Nat} (hB : inB pl) {x1 x2 x4 : Int32} {q9 : Nat} (hk_q9 : kC q9 = 7) (hp_q9 : q9 ∈ pl) (hq_q9 : q9 + 1 ∈ pl)
    (e_1 : Φ none (mC P O (up2 I 116 8 x4) A J) pl) :
    WA X (mC P O I A J) pl 0 0 98 [(0, .ref 116), (1, .int x1), (2, .int x2), (3, .ref q9), (4, .int x4)] [] := by
  refine a_aload_n F 0 dX8_consider_98 rfl rfl ?_
  refine a_iload F 4 dX8_consider_99 rfl ?_
  refine a_puti F fl_8_147 rfl rfl rfl rfl (hB _ (by decide)) rfl dX8_consider_101 ?_
  exact a_vret F E dX8_consider_104 (Nat.le_refl 0) (Nat.le_refl 0) (e_1)

set_option maxRecDepth 100000 in
theorem c_8_consider (l : Launch) {P O : Nat → Nat → Option Nat} (hP : laP P) (I A : Nat → Nat → Int32) (J : Nat → Nat → Int64) {pl : List Nat} (hB : inB pl) (s : Nat) (o : Option Nat) (S : Nat → Prop) (hO : shO O pl) (hs : stnd s) (hd : dnC O J s) (ht : rkT (A 118)) (hC : clC P O pl) (hpk : pkS P I o) (hpb : pkB o S) (hto : ∀ t, o = some t → stnd t ∧ dnC O J t) : Con l 2 yX8_consider cX8_consider 6 none [.ref 116, .int (nI s)] (mC P O I A J) pl 0 0 (csQ8 P O I A J pl (fun u => S u ∨ u = s)) := by
  refine Con.of (by decide) (Nat.le_of_ble_eq_true rfl) (fun X hX9 hn9 F E => ?_)
  have hs2 : s < 2 ^ 31 := by have := hs.1; omega
  have hb := rk_b hs
  have same : ∀ t, o = some t → bet t s → csQ8 P O I A J pl (fun u => S u ∨ u = s) none (mC P O I A J) pl := fun t e h => ⟨rfl, rfl, P, I, o, rfl, frP.rf P, frK.rf I, hC, hpk, pkB_add hpb (fun t' e' => by rw [e] at e'; cases e'; exact h) (by rw [e]; exact fun z => nomatch z), hto⟩
  have shm : ∀ t, stnd t → dnC O J t → 1000 + 2 * (rkN t / 64) ∈ pl ∧ 1000 + 2 * (rkN t / 64) + 1 ∈ pl := fun t ht2 hd2 => by
    have := rk_b ht2
    rcases hO (rkN t / 64) (by omega) with ⟨a, b, c⟩ | ⟨a, -⟩
    · exact ⟨b, by rw [show 1000 + 2 * (rkN t / 64) + 1 = 1001 + 2 * (rkN t / 64) by omega]; exact c⟩
    · rw [hd2.1] at a; exact absurd a (fun z => nomatch z)
  obtain ⟨m1, m2⟩ := shm s hs hd
  have take : (∀ t, o = some t → bet s t) → WA X (mC P O I A J) pl 0 0 88 [(0, .ref 116), (1, .int (nI s)), (2, .int (nI (rkN s))), (3, .ref (1000 + 2 * (rkN s / 64))), (4, .int (nI (18 * (rkN s % 64))))] [] := fun hbt => by
    refine r_8_consider_88 F hP hB (kC_sh _) m1 m2 ?_
    refine a_putr F fl_8_143 rfl rfl (fun _ => rfl) (fun _ => rfl) (hB _ (by decide)) rfl dX8_consider_95 ?_
    have fp : frP P (up2 P 116 9 (some (1000 + 2 * (rkN s / 64)))) := fun q k h => by
      by_cases c : q = 116
      · subst c; exact up2_k (fun z => h ⟨rfl, z⟩)
      · exact up2_p c
    show WA X (mC (up2 P 116 9 (some (1000 + 2 * (rkN s / 64)))) O (up2 I 116 7 (nI s)) A J) pl 0 0 98 [(0, .ref 116), (1, .int (nI s)), (2, .int (nI (rkN s))), (3, .ref (1000 + 2 * (rkN s / 64))), (4, .int (nI (18 * (rkN s % 64))))] []
    refine r_8_consider_98 F E (fp.la hP) hB (kC_sh _) m1 m2 ?_
    refine ⟨rfl, rfl, _, _, some s, rfl, fp, fun q k h => ?_, fp.cl hC (fun b e => ?_), ⟨?_, up2_s, up2_s⟩, pkB_new hpb hbt, fun t e => ?_⟩
    · by_cases c : q = 116
      · subst c
        have k8 : k ≠ 8 := fun z => h ⟨rfl, by omega, by omega⟩
        have k7 : k ≠ 7 := fun z => h ⟨rfl, by omega, by omega⟩
        rw [up2_k k8, up2_k k7]
      · rw [up2_p c, up2_p c]
    · rw [up2_s] at e; cases e; exact m1
    · rw [up2_k (by decide), up2_s]
    · cases e; exact ⟨hs, hd⟩
  refine r_8_consider_0 F E hP hB (fun z => ?_) (fun z => ?_)
  rotate_left
  · cases o with
    | none => have e : I 116 7 = -1 := hpk; rw [e] at z; exact absurd z (nI_nm hs2)
    | some t =>
      have e : I 116 7 = nI t := hpk.1
      rw [e] at z
      have ht2 := (hto t rfl).1.1
      have := (nI_eq hs2 (by omega)).mp z
      subst this
      exact same s rfl (bet_rf s)
  refine r_8_consider_9 F hP hB ((std_n hs2).mpr hs) ht ?_
  rw [rkI_n hs]
  refine r_8_consider_15 F hP hB ?_
  refine a_callV (b := 116) (As := [.int (nI (rkN s))]) (st := []) (ci := 8) F (c_8_shelfOf (xl X) hP I A J hB (rkN s) hO hb) ml_8_78 im_yX8_shelfOf se_yX8_shelfOf (by decide) (by decide) rfl (hB _ (by decide)) rfl rfl dX8_consider_17 (by decide) (Nat.le_refl 0) (Nat.le_refl 0) (hl_r (hB _ (by decide)) (hl_i (hl_i hl_nil))) hs_nil ?_
  rintro _ _ _ ⟨rfl, rfl, rfl⟩ _
  rw [hd.1]
  refine r_8_consider_20 F hP hB (kC_sh _) m1 m2 ?_
  refine r_8_consider_26 F hP hB (kC_sh _) m1 m2 (nI_pos' (by omega)) (fun z => ?_) (fun z => ?_) <;> rw [ceI_n (by omega)]
  · refine take (fun t e => ?_)
    subst e
    have e : I 116 7 = nI t := hpk.1
    have ht2 := (hto t rfl).1.1
    rw [e] at z; exact absurd z (nI_nm (by omega))
  cases o with
  | none => exact absurd hpk z
  | some t =>
    obtain ⟨e7, e9, e8⟩ := hpk
    obtain ⟨t1, t2⟩ := hto t rfl
    obtain ⟨n1, n2⟩ := shm t t1 t2
    have hbt := rk_b t1
    refine a_sub [1, 2, 3, 4, 0] rfl ?_
    refine a_getr (b := 1000 + 2 * (rkN t / 64)) F fl_8_143 rfl (hB _ (by decide)) rfl e9 dX8_consider_41 ?_
    refine r_8_consider_44 F hP hB (kC_sh _) m1 m2 (kC_sh _) n1 n2 ?_
    refine a_getr (b := 1000 + 2 * (rkN t / 64)) F fl_8_143 rfl (hB _ (by decide)) rfl e9 dX8_consider_54 ?_
    refine r_8_consider_57 F hP hB (kC_sh _) m1 m2 (kC_sh _) n1 n2 ?_
    rw [e8]
    have cA : ∀ k, kC (1000 + 2 * k + 1) = 14 ∧ nC (1000 + 2 * k + 1) = 1152 := fun k => k_sh (kC_sh k)
    refine a_callS (As := [.ref (1000 + 2 * (rkN s / 64) + 1), .int (nI (18 * (rkN s % 64))), .ref (1000 + 2 * (rkN t / 64) + 1), .int (nI (18 * (rkN t % 64)))]) (st := []) F (c_8_compareRolls (xl X) hP I A J hB _ (cA _).1 m2 _ (cA _).1 n2 (18 * (rkN s % 64)) (18 * (rkN t % 64)) (by rw [(cA _).2]; omega) (by rw [(cA _).2]; omega) (by rw [(cA _).2]; omega) (by rw [(cA _).2]; omega) hd.2.1 t2.2.1) ml_8_150 sm_yX8_compareRolls (by decide) rfl dX8_consider_64 (by decide) (Nat.le_refl 0) (Nat.le_refl 0) (hl_r (hB _ (by decide)) (hl_i (hl_i (hl_r (m1) (hl_i hl_nil))))) hs_nil ?_
    rintro _ _ _ ⟨rfl, rfl, rfl⟩ _
    rw [show valW (fun k => J (1000 + 2 * (rkN s / 64) + 1) (18 * (rkN s % 64) + k)) 6 = eF 32 s from hd.2.2.1, show valW (fun k => J (1000 + 2 * (rkN t / 64) + 1) (18 * (rkN t % 64) + k)) 6 = eF 32 t from t2.2.2.1]
    have gt : 0 < cmpW (eF 32 s) (eF 32 t) ↔ eF 32 t < eF 32 s := by
      unfold cmpW
      by_cases c : eF 32 s < eF 32 t
      · rw [if_pos c]; exact ⟨fun z => absurd z (by decide), fun z => by omega⟩
      · rw [if_neg c]; by_cases c2 : eF 32 s = eF 32 t
        · rw [if_pos c2]; exact ⟨fun z => absurd z (by decide), fun z => by omega⟩
        · rw [if_neg c2]; exact ⟨fun _ => by omega, fun _ => by decide⟩
    have ez : cmpW (eF 32 s) (eF 32 t) = 0 ↔ eF 32 s = eF 32 t := by
      unfold cmpW
      by_cases c : eF 32 s < eF 32 t
      · rw [if_pos c]; exact ⟨fun z => absurd z (by decide), fun z => by omega⟩
      · rw [if_neg c]; by_cases c2 : eF 32 s = eF 32 t
        · rw [if_pos c2]; exact ⟨fun _ => c2, fun _ => rfl⟩
        · rw [if_neg c2]; exact ⟨fun z => absurd z (by decide), fun z => absurd z c2⟩
    have le9 : I 116 7 ≤ nI s ↔ t ≤ s := by have := t1.1; rw [e7]; exact nI_leI (by omega) hs2
    refine r_8_consider_67 F E hP hB (kC_sh _) m1 m2 (fun y => same t rfl (Or.inl (gt.mp y))) (fun y w => take (fun t' e => ?_)) (fun y w u => take (fun t' e => ?_)) (fun y w u => same t rfl (Or.inr ⟨(ez.mp w).symm, ?_⟩))
    · cases e; have := (not_congr gt).mp y; have := (not_congr ez).mp w; exact Or.inl (by omega)
    · cases e; exact Or.inr ⟨ez.mp w, le9.mp u⟩
    · have := (not_congr le9).mp u; omega
