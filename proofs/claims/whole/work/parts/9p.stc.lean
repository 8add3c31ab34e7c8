/-! how the shelves grow -/
def gr (P O : Nat → Nat → Option Nat) (I : Nat → Nat → Int32) (J : Nat → Nat → Int64) (pl : List Nat) (P' O' : Nat → Nat → Option Nat) (I' : Nat → Nat → Int32) (J' : Nat → Nat → Int64) (pl' : List Nat) : Prop :=
  frP P P' ∧ frK I I' ∧ clC P' O' pl' ∧ shO O' pl' ∧ (∀ q, q ∈ pl → q ∈ pl') ∧ (∀ q, q ∈ pl' → q ∈ pl ∨ 1000 ≤ q) ∧ (∀ q, q ≠ 117 → O' q = O q) ∧ (∀ q, q < 1000 → q ≠ 147 → q ≠ 124 → J' q = J q) ∧ (∀ t, stnd t → dnC O J t → dnC O' J' t)
theorem gr.rf {P O : Nat → Nat → Option Nat} {I : Nat → Nat → Int32} {J : Nat → Nat → Int64} {pl : List Nat} (hC : clC P O pl) (hO : shO O pl) : gr P O I J pl P O I J pl := ⟨frP.rf P, frK.rf I, hC, hO, fun _ h => h, fun _ h => Or.inl h, fun _ _ => rfl, fun _ _ _ _ => rfl, fun _ _ h => h⟩
theorem gr.tr {P O P' O' P2 O2 : Nat → Nat → Option Nat} {I I' I2 : Nat → Nat → Int32} {J J' J2 : Nat → Nat → Int64} {pl pl' pl2 : List Nat} (h : gr P O I J pl P' O' I' J' pl') (h2 : gr P' O' I' J' pl' P2 O2 I2 J2 pl2) : gr P O I J pl P2 O2 I2 J2 pl2 := by
  obtain ⟨a1, a2, a3, a4, a5, a6, a7, a8, a9⟩ := h
  obtain ⟨b1, b2, b3, b4, b5, b6, b7, b8, b9⟩ := h2
  exact ⟨a1.tr b1, a2.tr b2, b3, b4, fun q h => b5 q (a5 q h), fun q h => (b6 q h).elim (a6 q) Or.inr, fun q h => (b7 q h).trans (a7 q h), fun q x y z => (b8 q x y z).trans (a8 q x y z), fun t ht h => b9 t ht (a9 t ht h)⟩
def sdI (O : Nat → Nat → Option Nat) (J : Nat → Nat → Int64) : Prop := (∀ t, stnd t → dnC O J t ∨ ndC O J t) ∧ ∀ t u, stnd t → stnd u → dnC O J t → domS u t → dnC O J u
theorem se_gr {P O P' O' : Nat → Nat → Option Nat} {I I' : Nat → Nat → Int32} {J J' : Nat → Nat → Int64} {pl pl' : List Nat} {s : Nat} (hs : stnd s) (fp : frP P P') (fk : frK I I') (d1 : clC P' O' pl') (d2 : shO O' pl') (d3 : ∀ q, q ∈ pl → q ∈ pl') (d4 : ∀ q, q ∈ pl' → q ∈ pl ∨ 1000 ≤ q) (d5 : ∀ q, q ≠ 117 → O' q = O q) (d6 : ∀ i, i ≠ rkN s / 64 → O' 117 i = O 117 i) (d7 : O' 117 (rkN s / 64) = some (1000 + 2 * (rkN s / 64))) (d8 : ∀ q, q ≠ 147 → q ≠ 124 → q ≠ 1001 + 2 * (rkN s / 64) → J' q = J q) (d9 : ∀ i, i < 18 * (rkN s % 64) ∨ 18 * (rkN s % 64) + 18 ≤ i → J' (1001 + 2 * (rkN s / 64)) i = if O 117 (rkN s / 64) = none then 0 else J (1001 + 2 * (rkN s / 64)) i) (d10 : dnC O' J' s) : gr P O I J pl P' O' I' J' pl' ∧ ∀ t, stnd t → t ≠ s → ndC O J t → ndC O' J' t := by
  have cell : ∀ t, stnd t → t ≠ s → (rkN t / 64 = rkN s / 64 ∧ ∀ j, j < 18 → clJ J' t j = if O 117 (rkN s / 64) = none then 0 else clJ J t j) ∨ (rkN t / 64 ≠ rkN s / 64 ∧ O' 117 (rkN t / 64) = O 117 (rkN t / 64) ∧ clJ J' t = clJ J t) := fun t ht ne => by
    have nr : rkN t ≠ rkN s := fun z => ne (rk_eq ht hs z)
    by_cases c : rkN t / 64 = rkN s / 64
    · refine Or.inl ⟨c, fun j hj => ?_⟩
      unfold clJ
      rw [c, show 1000 + 2 * (rkN s / 64) + 1 = 1001 + 2 * (rkN s / 64) by omega]
      exact d9 _ (by omega)
    · refine Or.inr ⟨c, d6 _ c, ?_⟩
      unfold clJ
      rw [d8 (1000 + 2 * (rkN t / 64) + 1) (by omega) (by omega) (by omega)]
  have dn : ∀ t, stnd t → dnC O J t → dnC O' J' t := fun t ht h => by
    by_cases ne : t = s
    · subst ne; exact d10
    · rcases cell t ht ne with ⟨c, e⟩ | ⟨c, e1, e2⟩
      · obtain ⟨x1, x2, x3, x4⟩ := h
        have nn : ¬ O 117 (rkN s / 64) = none := by rw [← c, x1]; exact fun z => nomatch z
        have e : ∀ j, j < 18 → clJ J' t j = clJ J t j := fun j hj => by rw [e j hj, if_neg nn]
        refine ⟨by rw [c]; exact d7, fun k hk => by rw [e k (by omega)]; exact x2 k hk, ?_, fun n n1 n2 => by rw [e _ (by omega)]; exact x4 n n1 n2⟩
        rw [← x3]; exact vw_cg 6 (fun k hk => e k (by omega))
      · unfold dnC; rw [e1, e2]; exact h
  refine ⟨⟨fp, fk, d1, d2, d3, d4, d5, fun q h1 h2 h3 => d8 q h2 h3 (by omega), dn⟩, fun t ht ne h => ?_⟩
  rcases cell t ht ne with ⟨c, e⟩ | ⟨c, e1, e2⟩
  · right
    rw [e 17 (by omega)]
    rcases h with h | h
    · rw [c] at h; rw [if_pos h]
    · rw [h]; split <;> rfl
  · unfold ndC; rw [e1, e2]; exact h
theorem su_ch {f g : Nat → Nat} {k c : Nat} (hk : g k + c = f k) (h : ∀ i, i ≠ k → g i = f i) : ∀ n, sumB g 0 n + (if k < n then c else 0) = sumB f 0 n
  | 0 => rfl
  | n + 1 => by
    have ih := su_ch hk h n
    show sumB g 0 n + g (0 + n) + _ = sumB f 0 n + f (0 + n)
    rw [Nat.zero_add]
    by_cases e : n = k
    · subst e; rw [if_neg (by omega)] at ih; rw [if_pos (by omega)]; omega
    · rw [h n e]
      by_cases y : k < n
      · rw [if_pos y] at ih; rw [if_pos (by omega)]; omega
      · rw [if_neg y] at ih; rw [if_neg (by omega)]; omega
def frT (O : Nat → Nat → Option Nat) : Nat := sumB (freeK O) 0 848
noncomputable def ndK (O : Nat → Nat → Option Nat) (b k : Nat) : Nat := @ite Nat (O 117 k = none ∧ ∃ u, stnd u ∧ domS u b ∧ rkN u / 64 = k) (Classical.propDecidable _) 1 0
noncomputable def ndF (O : Nat → Nat → Option Nat) (b : Nat) : Nat := sumB (ndK O b) 0 848
theorem frT_ch {O O' : Nat → Nat → Option Nat} {k : Nat} (hk : k < 848) (h : ∀ i, i ≠ k → O' 117 i = O 117 i) (h2 : O' 117 k ≠ none) : frT O' + freeK O k = frT O := by
  have := su_ch (f := freeK O) (g := freeK O') (k := k) (c := freeK O k) (by unfold freeK; rw [if_neg h2]; omega) (fun i hi => by unfold freeK; rw [h i hi]) 848
  rw [if_pos hk] at this; exact this
theorem ndF_ch {O O' : Nat → Nat → Option Nat} {b k u : Nat} (hk : k < 848) (h : ∀ i, i ≠ k → O' 117 i = O 117 i) (h2 : O' 117 k ≠ none) (hu : stnd u) (hd : domS u b) (hr : rkN u / 64 = k) : ndF O' b + freeK O k = ndF O b := by
  have e1 : ndK O' b k = 0 := by unfold ndK; rw [if_neg (fun z => h2 z.1)]
  have e2 : ndK O b k = freeK O k := by
    unfold ndK freeK
    by_cases c : O 117 k = none
    · rw [if_pos ⟨c, u, hu, hd, hr⟩, if_pos c]
    · rw [if_neg (fun z => c z.1), if_neg c]
  have := su_ch (f := ndK O b) (g := ndK O' b) (k := k) (c := freeK O k) (by omega) (fun i hi => by unfold ndK; rw [h i hi]) 848
  rw [if_pos hk] at this; exact this
theorem ndF_0 {O : Nat → Nat → Option Nat} {J : Nat → Nat → Int64} {b : Nat} (h : ∀ u, stnd u → domS u b → dnC O J u) : ndF O b = 0 := by
  refine Eq.trans (su_cg (g := fun _ => 0) 848 (fun k hk => ?_)) (su_00 848)
  show ndK O b (0 + k) = 0
  rw [Nat.zero_add]
  unfold ndK
  rw [if_neg]
  rintro ⟨z, u, hu, hd, hr⟩
  have := (h u hu hd).1
  rw [hr, z] at this; exact nomatch this
theorem ndF_ge {O : Nat → Nat → Option Nat} {b k u : Nat} (hk : k < 848) (hu : stnd u) (hd : domS u b) (hr : rkN u / 64 = k) : freeK O k ≤ ndF O b := by
  have := su_le (B := ndK O b) (o := 0) (j := k) 848 hk
  rw [Nat.zero_add] at this
  refine Nat.le_trans ?_ this
  unfold ndK freeK
  by_cases c : O 117 k = none
  · rw [if_pos c, if_pos ⟨c, u, hu, hd, hr⟩]; exact Nat.le_refl _
  · rw [if_neg c]; exact Nat.zero_le _
theorem gr.pw {P O P' O' : Nat → Nat → Option Nat} {I I' : Nat → Nat → Int32} {J J' : Nat → Nat → Int64} {pl pl' : List Nat} (h : gr P O I J pl P' O' I' J' pl') (hT : pwT J) : pwT J' := by
  have e := h.2.2.2.2.2.2.2.1
  unfold pwT; rw [e 119 (by omega) (by omega) (by omega), e 145 (by omega) (by omega) (by omega)]; exact hT
noncomputable def wkC (O : Nat → Nat → Option Nat) (J : Nat → Nat → Int64) (b : Nat) : Nat := if 0 < chV O J b 12 then 0 else ndF O b
def woQ (P O : Nat → Nat → Option Nat) (I A : Nat → Nat → Int32) (J : Nat → Nat → Int64) (pl : List Nat) (b : Nat) : Option Value → HS → List Nat → Prop := fun r σ' pl' => r = none ∧ ∃ P' O' I' J', σ' = mC P' O' I' A J' ∧ gr P O I J pl P' O' I' J' pl' ∧ sdI O' J' ∧ dnC O' J' b ∧ frT O' + wkC O J b = frT O

theorem r_8_workOut_0 {X : Ctx} {mc ms k1 k2 : Nat} (F : Fx X cX8_workOut RX8 4 16 mc ms) (hk1 : k1 ≤ mc) (hk2 : k2 ≤ ms) {P O : Nat → Nat → Option Nat} (hP : laP P) {I A : Nat → Nat → Int32} {J : Nat → Nat → Int64} {pl : List Nat} (hB : inB pl) {x1 : Int32}
    (e_1 : WA X (mC P O I A J) pl k1 k2 2 [(0, .ref 116), (1, .int x1)] [.int x1, .ref 116]) :
    WA X (mC P O I A J) pl k1 k2 0 [(0, .ref 116), (1, .int x1)] [] := by
  refine a_aload_n F 0 dX8_workOut_0 rfl rfl ?_
  refine a_iload_n F 1 dX8_workOut_1 rfl rfl ?_
  exact e_1

theorem r_8_workOut_13 {X : Ctx} {mc ms k1 k2 : Nat} (F : Fx X cX8_workOut RX8 4 16 mc ms) (hk1 : k1 ≤ mc) (hk2 : k2 ≤ ms) {Φ : Option Value → HS → List Nat → Prop} (E : Ex X none mc ms Φ) {P O : Nat → Nat → Option Nat} (hP : laP P) {I A : Nat → Nat → Int32} {J : Nat → Nat → Int64} {pl : List Nat} (hB : inB pl) {x1 x2 x3 : Int32}
    (e_1 : (54264 ≤ x3) → Φ none (mC P O I A J) pl)
    (e_2 : (¬ (54264 ≤ x3)) → (x2 = (-1)) → Φ none (mC P O I A J) pl)
    (e_3 : (¬ (54264 ≤ x3)) → (¬ (x2 = (-1))) → WA X (mC P O I A J) pl k1 k2 26 [(0, .ref 116), (1, .int x1), (2, .int x2), (3, .int x3)] [.int x2, .ref 116]) :
    WA X (mC P O I A J) pl k1 k2 13 [(0, .ref 116), (1, .int x1), (2, .int x2), (3, .int x3)] [] := by
  refine a_iload_n F 3 dX8_workOut_13 rfl rfl ?_
  refine a_ldc F kc_8_63 dX8_workOut_14 ?_
  refine a_icmp_ge (tgt := 49) F dX8_workOut_16 (by decide) (fun (c_1 : 54264 ≤ x3) => ?_) (fun (c_1 : ¬ (54264 ≤ x3)) => ?_)
  · exact a_vret F E dX8_workOut_49 hk1 hk2 (e_1 c_1)
  · refine a_iload_n F 2 dX8_workOut_19 rfl rfl ?_
    refine a_iconst (v := (-1)) F dX8_workOut_20 (by decide) ?_
    refine a_icmp_eq (tgt := 49) F dX8_workOut_21 (by decide) (fun (c_2 : x2 = (-1)) => ?_) (fun (c_2 : ¬ (x2 = (-1))) => ?_)
    · exact a_vret F E dX8_workOut_49 hk1 hk2 (e_2 c_1 c_2)
    · refine a_aload_n F 0 dX8_workOut_24 rfl rfl ?_
      refine a_iload_n F 2 dX8_workOut_25 rfl rfl ?_
      exact e_3 c_1 c_2

theorem r_8_workOut_5 {X : Ctx} {mc ms k1 k2 : Nat} (F : Fx X cX8_workOut RX8 4 16 mc ms) (hk1 : k1 ≤ mc) (hk2 : k2 ≤ ms) {Φ : Option Value → HS → List Nat → Prop} (E : Ex X none mc ms Φ) {P O : Nat → Nat → Option Nat} (hP : laP P) {I A : Nat → Nat → Int32} {J : Nat → Nat → Int64} {pl : List Nat} (hB : inB pl) {x1 x9 : Int32}
    (e_1 : (x9 = 0) → WA X (mC P O I A J) pl k1 k2 13 [(0, .ref 116), (1, .int x1), (2, .int 0), (3, .int 0)] [])
    (e_2 : (¬ (x9 = 0)) → Φ none (mC P O I A J) pl) :
    WA X (mC P O I A J) pl k1 k2 5 [(0, .ref 116), (1, .int x1)] [.int x9] := by
  refine a_if_eq (tgt := 9) F dX8_workOut_5 (by decide) (fun (c_3 : x9 = 0) => ?_) (fun (c_3 : ¬ (x9 = 0)) => ?_)
  · refine a_iconst (v := 0) F dX8_workOut_9 (by decide) ?_
    refine a_istore_n F dX8_workOut_10 rfl (by decide) rfl ?_
    refine a_iconst (v := 0) F dX8_workOut_11 (by decide) ?_
    refine a_istore_n F dX8_workOut_12 rfl (by decide) rfl ?_
    refine a_sub [2, 3, 1, 0] rfl ?_
    exact e_1 c_3
  · exact a_vret F E dX8_workOut_8 hk1 hk2 (e_2 c_3)

theorem r_8_workOut_29 {X : Ctx} {mc ms k1 k2 : Nat} (F : Fx X cX8_workOut RX8 4 16 mc ms) (hk1 : k1 ≤ mc) (hk2 : k2 ≤ ms) {P O : Nat → Nat → Option Nat} (hP : laP P) {I A : Nat → Nat → Int32} {J : Nat → Nat → Int64} {pl : List Nat} (hB : inB pl) {x1 x2 x3 x9 : Int32}
    (e_1 : (¬ x9 = 0) → WA X (mC P O I A J) pl k1 k2 39 [(0, .ref 116), (1, .int x1), (2, .int x2), (3, .int x3)] [.int x1, .int x2])
    (e_2 : (x9 = 0) → WA X (mC P O I A J) pl k1 k2 34 [(0, .ref 116), (1, .int x1), (2, .int x2), (3, .int x3)] [.int x2, .ref 116]) :
    WA X (mC P O I A J) pl k1 k2 29 [(0, .ref 116), (1, .int x1), (2, .int x2), (3, .int x3)] [.int x9] := by
  refine a_if_ne (tgt := 37) F dX8_workOut_29 (by decide) (fun (c_4 : ¬ x9 = 0) => ?_) (fun (c_4 : x9 = 0) => ?_)
  · refine a_iload_n F 2 dX8_workOut_37 rfl rfl ?_
    refine a_iload_n F 1 dX8_workOut_38 rfl rfl ?_
    exact e_1 c_4
  · refine a_aload_n F 0 dX8_workOut_32 rfl rfl ?_
    refine a_iload_n F 2 dX8_workOut_33 rfl rfl ?_
    exact e_2 c_4

theorem r_8_workOut_37 {X : Ctx} {mc ms k1 k2 : Nat} (F : Fx X cX8_workOut RX8 4 16 mc ms) (hk1 : k1 ≤ mc) (hk2 : k2 ≤ ms) {P O : Nat → Nat → Option Nat} (hP : laP P) {I A : Nat → Nat → Int32} {J : Nat → Nat → Int64} {pl : List Nat} (hB : inB pl) {x1 x2 x3 : Int32}
    (e_1 : WA X (mC P O I A J) pl k1 k2 39 [(0, .ref 116), (1, .int x1), (2, .int x2), (3, .int x3)] [.int x1, .int x2]) :
    WA X (mC P O I A J) pl k1 k2 37 [(0, .ref 116), (1, .int x1), (2, .int x2), (3, .int x3)] [] := by
  refine a_iload_n F 2 dX8_workOut_37 rfl rfl ?_
  refine a_iload_n F 1 dX8_workOut_38 rfl rfl ?_
  exact e_1

theorem r_8_workOut_42 {X : Ctx} {mc ms k1 k2 : Nat} (F : Fx X cX8_workOut RX8 4 16 mc ms) (hk1 : k1 ≤ mc) (hk2 : k2 ≤ ms) {P O : Nat → Nat → Option Nat} (hP : laP P) {I A : Nat → Nat → Int32} {J : Nat → Nat → Int64} {pl : List Nat} (hB : inB pl) {x1 x2 x3 x9 : Int32}
    (e_1 : WA X (mC P O I A J) pl k1 k2 13 [(0, .ref 116), (1, .int x1), (2, .int x9), (3, .int (x3 + 1))] []) :
    WA X (mC P O I A J) pl k1 k2 42 [(0, .ref 116), (1, .int x1), (2, .int x2), (3, .int x3)] [.int x9] := by
  refine a_istore_n F dX8_workOut_42 rfl (by decide) rfl ?_
  refine a_iinc (v := x3 + 1) F 3 dX8_workOut_43 rfl rfl (by decide) rfl ?_
  refine a_goto (tgt := 13) F dX8_workOut_46 (by decide) ?_
  refine a_sub [2, 3, 1, 0] rfl ?_
  exact e_1

set_option maxRecDepth 100000 in
theorem c_8_workOut (l : Launch) {P O : Nat → Nat → Option Nat} (hP : laP P) (I A : Nat → Nat → Int32) (J : Nat → Nat → Int64) {pl : List Nat} (hB : inB pl) (b : Nat) (hF : laF P) (hI : shI I) (hO : shO O pl) (hs : stnd b) (ht : rkT (A 118)) (hC : clC P O pl) (hT : pwT J) (hst : sdI O J) : ConS l 16 yX8_workOut cX8_workOut 4 none [.ref 116, .int (nI b)] (mC P O I A J) pl (2 * wkC O J b) (1153 * wkC O J b) (woQ P O I A J pl b) := by
  refine ConS.of (by decide) (Nat.le_of_ble_eq_true rfl) (fun X hX9 hn9 F E S => ?_)
  have hb2 : b < 2 ^ 31 := by have := hs.1; omega
  refine r_8_workOut_0 F (Nat.zero_le _) (Nat.zero_le _) hP hB ?_
  refine a_callV (b := 116) (As := [.int (nI b)]) (st := []) (ci := 8) F (c_8_isWorkedOut (xl X) hP I A J hB b hO hs ht) ml_8_59 im_yX8_isWorkedOut se_yX8_isWorkedOut (by decide) (by decide) rfl (hB _ (by decide)) rfl rfl dX8_workOut_2 (by decide) (by omega) (by omega) (hl_r (hB _ (by decide)) (hl_i hl_nil)) hs_nil ?_
  rintro _ _ _ ⟨rfl, rfl, rfl⟩ _
  refine r_8_workOut_5 F (Nat.zero_le _) (Nat.zero_le _) E hP hB (fun z => ?_) (fun z => ?_)
  rotate_left
  · have c : 0 < chV O J b 12 := by
      by_cases c : 0 < chV O J b 12
      · exact c
      · rw [if_neg c] at z; exact absurd rfl z
    have hd : dnC O J b := (hst.1 b hs).elim id (fun h => absurd c (ch_nd h))
    exact ⟨rfl, P, O, I, J, rfl, gr.rf hC hO, hst, hd, by unfold wkC; rw [if_pos c]; rfl⟩
  have c : ¬ 0 < chV O J b 12 := fun c => by rw [if_pos c] at z; exact absurd z (by decide)
  have ew : wkC O J b = ndF O b := by unfold wkC; rw [if_neg c]
  rw [ew] at F E
  have lp : ∀ m t n (v : Nat → Nat) (P1 O1 : Nat → Nat → Option Nat) (I1 : Nat → Nat → Int32) (J1 : Nat → Nat → Int64) (pl1 : List Nat) (k1 k2 : Nat), b + 1 - t ≤ m → stnd t → domS t b → (∀ i, i < n → stnd (v i) ∧ v i < t) → (∀ i j, i < n → j < n → v i = v j → i = j) → gr P O I J pl P1 O1 I1 J1 pl1 → (∀ u, stnd u → dnC O1 J1 u ∨ ndC O1 J1 u) → (∀ u, stnd u → domS u b → u < t → dnC O1 J1 u) → (∀ u, stnd u → dnC O1 J1 u → dnC O J u ∨ domS u b) → k1 + 2 * ndF O1 b ≤ 2 * ndF O b → k2 + 1153 * ndF O1 b ≤ 1153 * ndF O b → frT O1 + ndF O b = frT O + ndF O1 b → WA X (mC P1 O1 I1 A J1) pl1 k1 k2 13 [(0, .ref 116), (1, .int (nI b)), (2, .int (nI t)), (3, .int (nI n))] [] := by
    intro m
    induction m with
    | zero =>
      intro t n v P1 O1 I1 J1 pl1 k1 k2 hm hts htd
      have := dom_le hts hs htd
      omega
    | succ m ih =>
      intro t n v P1 O1 I1 J1 pl1 k1 k2 hm hts htd hv hvi G hdd hlow hnew hc1 hc2 hfr
      have htb := dom_le hts hs htd
      have ht2 : t < 2 ^ 31 := by omega
      have hP1 := G.1.la hP
      have hB1 : inB pl1 := fun q h => G.2.2.2.2.1 q (hB q h)
      have hv2 : ∀ i, i < n + 1 → stnd (if i = n then t else v i) ∧ (if i = n then t else v i) ≤ t := fun i hi => by
        by_cases c : i = n
        · rw [if_pos c]; exact ⟨hts, Nat.le_refl _⟩
        · rw [if_neg c]; have := hv i (by omega); exact ⟨this.1, by omega⟩
      have hv3 : ∀ i j, i < n + 1 → j < n + 1 → (if i = n then t else v i) = (if j = n then t else v j) → i = j := fun i j hi hj h => by
        by_cases c : i = n
        · by_cases c2 : j = n
          · omega
          · rw [if_pos c, if_neg c2] at h; have := (hv j (by omega)).2; omega
        · by_cases c2 : j = n
          · rw [if_neg c, if_pos c2] at h; have := (hv i (by omega)).2; omega
          · rw [if_neg c, if_neg c2] at h; exact hvi i j (by omega) (by omega) h
      have nb : n + 1 ≤ 54264 := pigN (fun i => rkN (if i = n then t else v i)) (fun i hi => rk_b (hv2 i hi).1) (fun i j hi hj h => hv3 i j hi hj (rk_eq (hv2 i hi).1 (hv2 j hj).1 h))
      have nlt : ¬ (54264 : Int32) ≤ nI n := fun z => by have := (nI_gen 54264 (by omega) (by omega)).mp z; omega
      have tne : ¬ nI t = -1 := fun z => by have := nI_pos' ht2; rw [z] at this; exact absurd this (by decide)
      have rest : ∀ (P2 O2 : Nat → Nat → Option Nat) (I2 : Nat → Nat → Int32) (J2 : Nat → Nat → Int64) (pl2 : List Nat) (k1 k2 : Nat), gr P O I J pl P2 O2 I2 J2 pl2 → (∀ u, stnd u → dnC O2 J2 u ∨ ndC O2 J2 u) → (∀ u, stnd u → domS u b → u ≤ t → dnC O2 J2 u) → (∀ u, stnd u → dnC O2 J2 u → dnC O J u ∨ domS u b) → k1 + 2 * ndF O2 b ≤ 2 * ndF O b → k2 + 1153 * ndF O2 b ≤ 1153 * ndF O b → frT O2 + ndF O b = frT O + ndF O2 b → WA X (mC P2 O2 I2 A J2) pl2 k1 k2 39 [(0, .ref 116), (1, .int (nI b)), (2, .int (nI t)), (3, .int (nI n))] [.int (nI b), .int (nI t)] := by
        intro P2 O2 I2 J2 pl2 k1 k2 G2 e1 e2 e3 e4 e5 e6
        have hP2 := G2.1.la hP
        have hB : inB pl2 := fun q h => G2.2.2.2.2.1 q (hB q h)
        refine a_callS (As := [.int (nI t), .int (nI b)]) (st := []) F (c_8_following (xl X) hP2 I2 A J2 hB t b hts hs) ml_8_67 sm_yX8_following (by decide) rfl dX8_workOut_39 (by decide) (by omega) (by omega) (hl_r (hB _ (by decide)) (hl_i (hl_i (hl_i hl_nil)))) hs_nil ?_
        rintro _ _ _ ⟨rfl, rfl, ⟨p, p1, p6, hlt, hmin, rfl⟩ | ⟨hall, rfl⟩⟩ _
        · refine r_8_workOut_42 F (by omega) (by omega) hP2 hB ?_
          rw [nI_1]
          obtain ⟨g1, g2⟩ := nx_ok hts hs p1 p6 htd hlt
          have g3 := nx_gt t p
          have g4 := dom_le g1 hs g2
          refine ih (nxS t p) (n + 1) (fun i => if i = n then t else v i) P2 O2 I2 J2 pl2 _ _ (by omega) g1 g2 (fun i hi => ⟨(hv2 i hi).1, Nat.lt_of_le_of_lt (hv2 i hi).2 g3⟩) hv3 G2 e1 (fun u hu hd hl => ?_) e3 (by omega) (by omega) e6
          rcases Nat.lt_or_ge t u with y | y
          · have := nx_min hts hu p1 p6 hd hmin y; omega
          · exact e2 u hu hd y
        · refine r_8_workOut_42 F (by omega) (by omega) hP2 hB ?_
          have tb : t = b := mf_ext hts hs (fun p p1 p6 => Nat.le_antisymm (htd p p1 p6) (hall p p1 p6))
          have alld : ∀ u, stnd u → domS u b → dnC O2 J2 u := fun u hu hd => e2 u hu hd (by rw [tb]; exact dom_le hu hs hd)
          have z0 := ndF_0 alld
          have fin : woQ P O I A J pl b none (mC P2 O2 I2 A J2) pl2 := ⟨rfl, P2, O2, I2, J2, rfl, G2, ⟨e1, fun t' u ht' hu hd hdom => ?_⟩, alld b hs (dom_rf b), by rw [ew]; omega⟩
          · exact r_8_workOut_13 F (by omega) (by omega) E hP2 hB (fun _ => fin) (fun _ _ => fin) (fun _ z => absurd rfl z)
          · rcases e3 t' ht' hd with y | y
            · exact G2.2.2.2.2.2.2.2.2 u hu (hst.2 t' u ht' hu y hdom)
            · exact alld u hu (dom_tr hdom y)
      have hO1 := G.2.2.2.1
      have hB := hB1
      refine r_8_workOut_13 F (by omega) (by omega) E hP1 hB (fun z => absurd z nlt) (fun _ z => absurd z tne) (fun _ _ => ?_)
      refine a_callV (b := 116) (As := [.int (nI t)]) (st := []) (ci := 8) F (c_8_isWorkedOut (xl X) hP1 I1 A J1 hB t hO1 hts ht) ml_8_59 im_yX8_isWorkedOut se_yX8_isWorkedOut (by decide) (by decide) rfl (hB _ (by decide)) rfl rfl dX8_workOut_26 (by decide) (by omega) (by omega) (hl_r (hB _ (by decide)) (hl_i (hl_i (hl_i hl_nil)))) hs_nil ?_
      rintro _ _ _ ⟨rfl, rfl, rfl⟩ _
      refine r_8_workOut_29 F (by omega) (by omega) hP1 hB (fun z => ?_) (fun z => ?_)
      · have c : 0 < chV O1 J1 t 12 := by
          by_cases c : 0 < chV O1 J1 t 12
          · exact c
          · rw [if_neg c] at z; exact absurd rfl z
        have hd : dnC O1 J1 t := (hdd t hts).elim id (fun h => absurd c (ch_nd h))
        refine rest P1 O1 I1 J1 pl1 _ _ G hdd (fun u hu hdu hl => ?_) hnew (by omega) (by omega) hfr
        rcases Nat.lt_or_ge u t with y | y
        · exact hlow u hu hdu y
        · rw [show u = t by omega]; exact hd
      · have c : ¬ 0 < chV O1 J1 t 12 := fun c => by rw [if_pos c] at z; exact absurd z (by decide)
        have hbt := rk_b hts
        have hk : rkN t / 64 < 848 := by omega
        have fl := ndF_ge (O := O1) hk hts htd rfl
        refine a_callVS (b := 116) (As := [.int (nI t)]) (st := []) (ci := 8) F S (c_8_settle (xl X) hP1 I1 A J1 hB t (G.1.lf hF) (G.2.1.sh hI) hO1 hts ht G.2.2.1 (G.pw hT) (fun t0 a b9 u a1 a6 b1 b6 hr => hlow u (Res_st a1 b1 hts hr).1 (dom_tr (Res_dom a1 b1 hts hr) htd) ((Res_st a1 b1 hts hr).2 t0))) ml_8_64 im_yX8_settle se_yX8_settle (by decide) (by decide) rfl (hB _ (by decide)) rfl rfl dX8_workOut_34 (by decide) (by omega) (by omega) (hl_r (hB _ (by decide)) (hl_i (hl_i (hl_i hl_nil)))) hs_nil ?_
        rintro _ _ pl2 ⟨rfl, P2, O2, I2, J2, rfl, d1, d2, d3, d4, d5, d6, d7, d8, d9, d10, d11, d12⟩ _
        obtain ⟨G2, nd2⟩ := se_gr hts d1 d2 d3 d4 d5 d6 d7 d8 d9 d10 d11 d12
        have nn : O2 117 (rkN t / 64) ≠ none := by rw [d9]; exact fun z => nomatch z
        have w1 := ndF_ch (b := b) hk d8 nn hts htd rfl
        have w2 := frT_ch hk d8 nn
        have G3 := G.tr G2
        have keep := G2.2.2.2.2.2.2.2.2
        refine r_8_workOut_37 F (by omega) (by omega) (G3.1.la hP) (fun q h => d5 q (hB q h)) ?_
        refine rest P2 O2 I2 J2 pl2 _ _ G3 (fun u hu => ?_) (fun u hu hdu hl => ?_) (fun u hu hd => ?_) (by omega) (by omega) (by omega)
        · by_cases y : u = t
          · rw [y]; exact Or.inl d12
          · exact (hdd u hu).elim (fun h => Or.inl (keep u hu h)) (fun h => Or.inr (nd2 u hu y h))
        · rcases Nat.lt_or_ge u t with y | y
          · exact keep u hu (hlow u hu hdu y)
          · rw [show u = t by omega]; exact d12
        · by_cases y : u = t
          · rw [y]; exact Or.inr htd
          · rcases hdd u hu with h | h
            · exact hnew u hu h
            · exact absurd (ch_dn hu hd) (ch_nd (nd2 u hu y h))
  exact lp (b + 1) 0 0 (fun _ => 0) P O I J pl 0 0 (by omega) st_0 (dom_0 b) (fun i hi => by omega) (fun i j hi => by omega) (gr.rf hC hO) hst.1 (fun u _ _ h => by omega) (fun u _ h => Or.inl h) (by omega) (by omega) rfl
