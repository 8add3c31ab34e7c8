def sumA (rd al : Nat → Nat) : Prop := ∀ q, q ≤ 1 → al q = sumR rd (26 * q) 25
theorem sumR_out {rd : Nat → Nat} {o j v : Nat} : ∀ i, (∀ k, 1 ≤ k → k ≤ i → o + k ≠ j) → sumR (va_up rd j v) o i = sumR rd o i
  | 0, _ => rfl
  | i + 1, h => by
    show sumR (va_up rd j v) o i + va_up rd j v (o + (i + 1)) = sumR rd o i + rd (o + (i + 1))
    rw [sumR_out i (fun k k1 k2 => h k k1 (by omega)), va_n (h (i + 1) (by omega) (by omega))]
theorem sumR_in {rd : Nat → Nat} {o k v : Nat} (h0 : rd (o + k) = 0) : ∀ i, 1 ≤ k → k ≤ i → sumR (va_up rd (o + k) v) o i = sumR rd o i + v
  | 0, _, _ => by omega
  | i + 1, k1, k2 => by
    show sumR (va_up rd (o + k) v) o i + va_up rd (o + k) v (o + (i + 1)) = sumR rd o i + rd (o + (i + 1)) + v
    by_cases c : k = i + 1
    · subst c
      rw [sumR_out i (fun j _ _ => by omega), va_s, h0]; omega
    · rw [sumR_in h0 i k1 (by omega), va_n (by omega)]; omega
theorem sumA_up {rd al : Nat → Nat} {m k v : Nat} (h : sumA rd al) (hm : m ≤ 1) (hk1 : 1 ≤ k) (hk : k ≤ 25) (h0 : rd (26 * m + k) = 0) : sumA (va_up rd (26 * m + k) v) (va_up al m (al m + v)) := fun q hq => by
  by_cases c : q = m
  · subst c; rw [va_s, sumR_in h0 25 hk1 hk, h q hq]
  · rw [va_n c, sumR_out 25 (fun j j1 j2 => by omega)]; exact h q hq
theorem stk1_ok {T : Nat → Int32} {n m all p : Nat} {rd : Nat → Nat} {r : Nat × Nat × (Nat → Nat)} (h : stk1 T n m all rd p = .ok r) : ∃ k v, 1 ≤ k ∧ k ≤ 25 ∧ rd (26 * m + k) = 0 ∧ all + v ≤ 15 ∧ (m = 1 → k < 25 → rd (25 - k) = 0) ∧ r.2.1 = all + v ∧ r.2.2 = va_up rd (26 * m + k) v ∧ p + 3 ≤ r.1 ∧ r.1 ≤ n := by
  unfold stk1 at h
  by_cases c1 : ¬ tkS T n p = 2
  · rw [if_pos c1] at h; cases h
  rw [if_neg c1] at h
  by_cases c2 : tkV T n p < 1 ∨ 25 < tkV T n p
  · rw [if_pos c2] at h; cases h
  rw [if_neg c2] at h
  by_cases c3 : 0 < rd (26 * m + tkN T n p)
  · rw [if_pos c3] at h; cases h
  rw [if_neg c3] at h
  by_cases c4 : m = 1 ∧ tkN T n p < 25 ∧ 0 < rd (25 - tkN T n p)
  · rw [if_pos c4] at h; cases h
  rw [if_neg c4] at h
  by_cases c5 : ¬ (tkS T n (nxP T n p) = 4 ∧ tkV T n (nxP T n p) = 58)
  · rw [if_pos c5] at h; cases h
  rw [if_neg c5] at h
  by_cases c6 : ¬ tkS T n (nxP T n (nxP T n p)) = 2
  · rw [if_pos c6] at h; cases h
  rw [if_neg c6] at h
  by_cases c7 : tkV T n (nxP T n (nxP T n p)) < 1 ∨ 15 < tkV T n (nxP T n (nxP T n p))
  · rw [if_pos c7] at h; cases h
  rw [if_neg c7] at h
  by_cases c8 : 15 < all + tkN T n (nxP T n (nxP T n p))
  · rw [if_pos c8] at h; cases h
  rw [if_neg c8] at h
  cases h
  have s1 : tkS T n p = 2 := Decidable.of_not_not c1
  have s2 : tkS T n (nxP T n p) = 4 := (Decidable.of_not_not c5).1
  have s3 : tkS T n (nxP T n (nxP T n p)) = 2 := Decidable.of_not_not c6
  have b1 := nxP_b (T := T) (tk_lt (T := T) (n := n) (p := p) (by rw [s1]; decide))
  have b2 := nxP_b (T := T) (tk_lt (T := T) (n := n) (p := nxP T n p) (by rw [s2]; decide))
  have b3 := nxP_b (T := T) (tk_lt (T := T) (n := n) (p := nxP T n (nxP T n p)) (by rw [s3]; decide))
  have h1 : ¬ tkV T n p < 1 := fun z => c2 (Or.inl z)
  have h2 : ¬ 25 < tkV T n p := fun z => c2 (Or.inr z)
  obtain ⟨k, hk, ek⟩ := nI_of2 (x := tkV T n p) (M := 25) (n := 25) rfl (by grind) (by grind)
  have en : tkN T n p = k := by unfold tkN; rw [ek, nI_clamp (by omega)]
  have g1 : 1 ≤ k := by
    rcases Nat.eq_zero_or_pos k with z | z
    · rw [ek, z] at h1; exact absurd (by decide) h1
    · exact z
  refine ⟨tkN T n p, tkN T n (nxP T n (nxP T n p)), by omega, by omega, by omega, by omega, fun y1 y2 => ?_, rfl, rfl, by show p + 3 ≤ nxP T n (nxP T n (nxP T n p)); omega, b3.2⟩
  rcases Nat.eq_zero_or_pos (rd (25 - tkN T n p)) with z | z
  · exact z
  · exact absurd ⟨y1, y2, z⟩ c4
def menQ (P O : Nat → Nat → Option Nat) (I A : Nat → Nat → Int32) (J : Nat → Nat → Int64) (pl : List Nat) (n sz m : Nat) (al : Nat → Nat) (res : Except (Nat × Nat) (Nat × (Nat → Nat))) : Option Value → HS → List Nat → Prop := fun rv σ' pl' => pl = pl' ∧ ∃ I' A', σ' = mC P O I' A' J ∧ FrC I I' ∧ (∀ q, q ≠ 133 → A' q = A q) ∧
  match res with
  | .error fp => rv = some (.int 0) ∧ I' 104 7 = nI fp.1 ∧ I' 104 8 = nI fp.2
  | .ok r => rv = some (.int 1) ∧ AtC I' (A 121) n r.1 sz ∧ I' 104 7 = I 104 7 ∧ I' 104 8 = I 104 8 ∧ ∃ al', rdB (A' 133) r.2 al' ∧ sumA r.2 al' ∧ ∀ q, q ≠ m → al' q = al q

theorem r_9_readMen_0 {X : Ctx} (F : Fx X cX9_readMen RX9 3 8 0 0) {Φ : Option Value → HS → List Nat → Prop} (E : Ex X (some .boolean) 0 0 Φ) {P O : Nat → Nat → Option Nat} (hP : laP P) {I A : Nat → Nat → Int32} {J : Nat → Nat → Int64} {pl : List Nat} (hB : inB pl) {x1 : Int32}
    (e_1 : (sgP I (59 : Int32)) → Φ (some (.int 1)) (mC P O I A J) pl)
    (e_2 : (¬ (sgP I (59 : Int32))) → WA X (mC P O I A J) pl 0 0 16 [(0, .ref 106), (1, .int x1), (2, .int 0)] []) :
    WA X (mC P O I A J) pl 0 0 0 [(0, .ref 106), (1, .int x1)] [] := by
  refine a_aload_n F 0 dX9_readMen_0 rfl rfl ?_
  refine a_getr (b := 104) F fl_9_29 rfl (hB _ (by decide)) rfl ((hP 106 0 (by decide)).trans rfl) dX9_readMen_1 ?_
  refine a_bipush (v := 59) F dX9_readMen_4 (by decide) ?_
  refine a_callV (b := 104) (As := [.int 59]) (st := []) (ci := 5) F (c_5_isSign (xl X) hP I A J hB (59 : Int32)) ml_9_54 im_yX5_isSign se_yX5_isSign (by decide) (by decide) rfl (hB _ (by decide)) rfl rfl dX9_readMen_6 (by decide) (Nat.le_refl 0) (Nat.le_refl 0) (hl_r (hB _ (by decide)) (hl_i hl_nil)) hs_nil ?_
  rintro _ _ _ ⟨rfl, rfl, rfl⟩ _
  show WA X (mC P O I A J) pl 0 0 9 [(0, .ref 106), (1, .int x1)] [.int (@ite Int32 (sgP I (59 : Int32)) (Classical.propDecidable _) 1 0)]
  refine a_ite (fun (c_1 : sgP I (59 : Int32)) => ?_) (fun (c_1 : ¬ (sgP I (59 : Int32))) => ?_)
  · refine a_if_eq (tgt := 14) F dX9_readMen_9 (by decide) (fun (c_2 : (1 : Int32) = 0) => ?_) (fun (c_2 : ¬ ((1 : Int32) = 0)) => ?_)
    · exact absurd c_2 (by decide)
    · refine a_iconst (v := 1) F dX9_readMen_12 (by decide) ?_
      exact a_zret F E (by decide) dX9_readMen_13 (Nat.le_refl 0) (Nat.le_refl 0) (e_1 c_1)
  · refine a_if_eq (tgt := 14) F dX9_readMen_9 (by decide) (fun (c_3 : (0 : Int32) = 0) => ?_) (fun (c_3 : ¬ ((0 : Int32) = 0)) => ?_)
    · refine a_iconst (v := 0) F dX9_readMen_14 (by decide) ?_
      refine a_istore_n F dX9_readMen_15 rfl (by decide) rfl ?_
      refine a_sub [1, 2, 0] rfl ?_
      exact e_2 c_1
    · exact absurd c_3 (by decide)

theorem r_9_readMen_16 {X : Ctx} (F : Fx X cX9_readMen RX9 3 8 0 0) {Φ : Option Value → HS → List Nat → Prop} (E : Ex X (some .boolean) 0 0 Φ) {P O : Nat → Nat → Option Nat} (hP : laP P) {I A : Nat → Nat → Int32} {J : Nat → Nat → Int64} {pl : List Nat} (hB : inB pl) {x1 x2 : Int32}
    (e_1 : (400 ≤ x2) → Φ (some (.int 1)) (mC P O I A J) pl)
    (e_2 : (¬ (400 ≤ x2)) → WA X (mC P O I A J) pl 0 0 25 [(0, .ref 106), (1, .int x1), (2, .int x2)] [.int x1, .ref 106]) :
    WA X (mC P O I A J) pl 0 0 16 [(0, .ref 106), (1, .int x1), (2, .int x2)] [] := by
  refine a_iload_n F 2 dX9_readMen_16 rfl rfl ?_
  refine a_sipush (v := 400) F dX9_readMen_17 (by decide) ?_
  refine a_icmp_ge (tgt := 60) F dX9_readMen_20 (by decide) (fun (c_4 : 400 ≤ x2) => ?_) (fun (c_4 : ¬ (400 ≤ x2)) => ?_)
  · refine a_iconst (v := 1) F dX9_readMen_60 (by decide) ?_
    exact a_zret F E (by decide) dX9_readMen_61 (Nat.le_refl 0) (Nat.le_refl 0) (e_1 c_4)
  · refine a_aload_n F 0 dX9_readMen_23 rfl rfl ?_
    refine a_iload_n F 1 dX9_readMen_24 rfl rfl ?_
    exact e_2 c_4

theorem r_9_readMen_28 {X : Ctx} (F : Fx X cX9_readMen RX9 3 8 0 0) {Φ : Option Value → HS → List Nat → Prop} (E : Ex X (some .boolean) 0 0 Φ) {P O : Nat → Nat → Option Nat} (hP : laP P) {I A : Nat → Nat → Int32} {J : Nat → Nat → Int64} {pl : List Nat} (hB : inB pl) {x1 x2 b1 : Int32}
    (o_1 : (¬ b1 = 0) → (sgP I (44 : Int32)) → okRd I)
    (e_2 : (¬ b1 = 0) → (sgP I (44 : Int32)) → WA X (mC P O (rgI I (A 121)) A J) pl 0 0 16 [(0, .ref 106), (1, .int x1), (2, .int (x2 + 1))] [])
    (e_3 : (¬ b1 = 0) → (¬ (sgP I (44 : Int32))) → Φ (some (.int 1)) (mC P O I A J) pl)
    (e_4 : (b1 = 0) → Φ (some (.int 0)) (mC P O I A J) pl) :
    WA X (mC P O I A J) pl 0 0 28 [(0, .ref 106), (1, .int x1), (2, .int x2)] [.int b1] := by
  refine a_if_ne (tgt := 33) F dX9_readMen_28 (by decide) (fun (c_5 : ¬ b1 = 0) => ?_) (fun (c_5 : b1 = 0) => ?_)
  · refine a_aload_n F 0 dX9_readMen_33 rfl rfl ?_
    refine a_getr (b := 104) F fl_9_29 rfl (hB _ (by decide)) rfl ((hP 106 0 (by decide)).trans rfl) dX9_readMen_34 ?_
    refine a_bipush (v := 44) F dX9_readMen_37 (by decide) ?_
    refine a_callV (b := 104) (As := [.int 44]) (st := []) (ci := 5) F (c_5_isSign (xl X) hP I A J hB (44 : Int32)) ml_9_54 im_yX5_isSign se_yX5_isSign (by decide) (by decide) rfl (hB _ (by decide)) rfl rfl dX9_readMen_39 (by decide) (Nat.le_refl 0) (Nat.le_refl 0) (hl_r (hB _ (by decide)) (hl_i (hl_i hl_nil))) hs_nil ?_
    rintro _ _ _ ⟨rfl, rfl, rfl⟩ _
    show WA X (mC P O I A J) pl 0 0 42 [(0, .ref 106), (1, .int x1), (2, .int x2)] [.int (@ite Int32 (sgP I (44 : Int32)) (Classical.propDecidable _) 1 0)]
    refine a_ite (fun (c_6 : sgP I (44 : Int32)) => ?_) (fun (c_6 : ¬ (sgP I (44 : Int32))) => ?_)
    · refine a_if_ne (tgt := 47) F dX9_readMen_42 (by decide) (fun (c_7 : ¬ (1 : Int32) = 0) => ?_) (fun (c_7 : (1 : Int32) = 0) => ?_)
      · refine a_aload_n F 0 dX9_readMen_47 rfl rfl ?_
        refine a_getr (b := 104) F fl_9_29 rfl (hB _ (by decide)) rfl ((hP 106 0 (by decide)).trans rfl) dX9_readMen_48 ?_
        refine a_callV (b := 104) (As := []) (st := []) (ci := 5) F (c_5_readI (xl X) hP I A J hB (o_1 c_5 c_6)) ml_9_60 im_yX5_read se_yX5_read (by decide) (by decide) rfl (hB _ (by decide)) rfl rfl dX9_readMen_51 (by decide) (Nat.le_refl 0) (Nat.le_refl 0) (hl_r (hB _ (by decide)) (hl_i (hl_i hl_nil))) hs_nil ?_
        rintro _ _ _ ⟨rfl, rfl, rfl⟩ _
        show WA X (mC P O (rgI I (A 121)) A J) pl 0 0 54 [(0, .ref 106), (1, .int x1), (2, .int x2)] []
        refine a_iinc (v := x2 + 1) F 2 dX9_readMen_54 rfl rfl (by decide) rfl ?_
        refine a_goto (tgt := 16) F dX9_readMen_57 (by decide) ?_
        refine a_sub [1, 2, 0] rfl ?_
        exact e_2 c_5 c_6
      · exact absurd c_7 (by decide)
    · refine a_if_ne (tgt := 47) F dX9_readMen_42 (by decide) (fun (c_8 : ¬ (0 : Int32) = 0) => ?_) (fun (c_8 : (0 : Int32) = 0) => ?_)
      · exact absurd c_8 (by decide)
      · refine a_iconst (v := 1) F dX9_readMen_45 (by decide) ?_
        exact a_zret F E (by decide) dX9_readMen_46 (Nat.le_refl 0) (Nat.le_refl 0) (e_3 c_5 c_6)
  · refine a_iconst (v := 0) F dX9_readMen_31 (by decide) ?_
    exact a_zret F E (by decide) dX9_readMen_32 (Nat.le_refl 0) (Nat.le_refl 0) (e_4 c_5)

set_option maxRecDepth 200000 in
theorem c_9_readMen (l : Launch) {P O : Nat → Nat → Option Nat} (hP : laP P) (I A : Nat → Nat → Int32) (J : Nat → Nat → Int64) {pl : List Nat} (hB : inB pl) (n p sz m : Nat) (rd al0 : Nat → Nat) (hm : m ≤ 1) (h : AtC I (A 121) n p sz) (hb : rdB (A 133) rd al0) (hs : sumA rd al0) (h0 : al0 m = 0) : Con l 8 yX9_readMen cX9_readMen 3 (some .boolean) [.ref 106, .int (nI m)] (mC P O I A J) pl 0 0 (menQ P O I A J pl n sz m al0 (stkT (A 121) n m rd p)) := by
  refine Con.of (by decide) (Nat.le_of_ble_eq_true rfl) (fun X hX9 hn9 F E => ?_)
  obtain ⟨R, hR0⟩ : ∃ R, stkT (A 121) n m rd p = R := ⟨_, rfl⟩
  rw [hR0] at E
  have lp : ∀ f k p rd al I1 A1, n < p + f → 4 * k ≤ p → AtC I1 (A 121) n p sz → rdB (A1 133) rd al → sumA rd al → FrC I I1 → (∀ q, q ≠ 133 → A1 q = A q) → I1 104 7 = I 104 7 → I1 104 8 = I 104 8 → (∀ q, q ≠ m → al q = al0 q) → stkF (A 121) n m f (al m) rd p = R → WA X (mC P O I1 A1 J) pl 0 0 16 [(0, .ref 106), (1, .int (nI m)), (2, .int (nI k))] [] := by
    intro f
    induction f with
    | zero => intro k p rd al I1 A1 hf _ hc; have := hc.1; omega
    | succ f ih =>
      intro k p rd al I1 A1 hf hk hc hb hs hF hA e7 e8 ha hR
      have hn := hc.2.2.1
      have hn2 := hc.2.1
      have hp := hc.1
      have hk4 : ¬ (400 : Int32) ≤ nI k := fun z => by have := (nI_gen 400 (by omega) (by omega)).mp z; omega
      rw [stkF_1] at hR
      have eT : A1 121 = A 121 := hA 121 (by decide)
      refine r_9_readMen_16 F E hP hB (fun z => absurd z hk4) (fun _ => ?_)
      refine a_callV (b := 106) (As := [.int (nI m)]) (st := []) (ci := 9) F (c_9_readStack (xl X) hP I1 A1 J hB n p sz m rd al hm (by rw [eT]; exact hc) hb) ml_9_57 im_yX9_readStack se_yX9_readStack (by decide) (by decide) rfl (hB _ (by decide)) rfl rfl dX9_readMen_25 (by decide) (Nat.le_refl 0) (Nat.le_refl 0) (hl_r (hB _ (by decide)) (hl_i (hl_i hl_nil))) hs_nil ?_
      rintro rv σ' pl' ⟨rfl, I2, A2, rfl, hF2, hA2, hcase⟩ _
      rw [eT] at hcase
      have hA3 : ∀ q, q ≠ 133 → A2 q = A q := fun q hq => (hA2 q hq).trans (hA q hq)
      have eT2 : A2 121 = A 121 := hA3 121 (by decide)
      cases hst : stk1 (A 121) n m (al m) rd p with
      | error e =>
        rw [hst] at hR hcase
        obtain ⟨rfl, h7, h8⟩ := hcase
        refine r_9_readMen_28 F E hP hB (fun z => absurd rfl z) (fun z => absurd rfl z) (fun z => absurd rfl z) (fun _ => ?_)
        have hR : Except.error e = R := hR
        rw [← hR]
        exact ⟨rfl, I2, A2, rfl, hF.tr hF2, hA3, rfl, h7, h8⟩
      | ok r =>
        rw [hst] at hR hcase
        obtain ⟨rfl, hc2, h7, h8, hb2⟩ := hcase
        obtain ⟨kk, v, k1, k2, k3, k4, -, k5, k6, k7, k8⟩ := stk1_ok hst
        have hs2 : sumA r.2.2 (va_up al m r.2.1) := by rw [k6, k5]; exact sumA_up hs hm k1 k2 k3
        have hR : (if tkS (A 121) n r.1 = 4 ∧ tkV (A 121) n r.1 = 44 then stkF (A 121) n m f r.2.1 r.2.2 (nxP (A 121) n r.1) else .ok (r.1, r.2.2)) = R := hR
        have sg := ac_sg hc2 44
        refine r_9_readMen_28 F E hP hB (fun _ _ => ac_rd hc2) (fun _ z => ?_) (fun _ z => ?_) (fun z => absurd z (by decide))
        · rw [if_pos (sg.mp z)] at hR
          have hlt := ac_lt hc2 (by rw [(sg.mp z).1]; decide)
          have hb3 := nxP_b (T := A 121) hlt
          rw [eT2, nI_1]
          refine ih (k + 1) (nxP (A 121) n r.1) r.2.2 (va_up al m r.2.1) (rgI I2 (A 121)) A2 (by omega) (by omega) (ac_nx hc2 hlt) hb2 hs2 ((hF.tr hF2).tr (fr_rg _ _)) hA3 ?_ ?_ ?_ ?_
          · exact (rg_78 _ _).1.trans (h7.trans e7)
          · exact (rg_78 _ _).2.trans (h8.trans e8)
          · intro q hq; rw [va_n hq]; exact ha q hq
          · rw [va_s]; exact hR
        · rw [if_neg (fun y => z (sg.mpr y))] at hR
          rw [← hR]
          exact ⟨rfl, I2, A2, rfl, hF.tr hF2, hA3, rfl, hc2, h7.trans e7, h8.trans e8, _, hb2, hs2, fun q hq => by rw [va_n hq]; exact ha q hq⟩
  have sg := ac_sg h 59
  refine r_9_readMen_0 F E hP hB (fun z => ?_) (fun z => ?_)
  · rw [← hR0]; unfold stkT; rw [if_pos (sg.mp z)]
    exact ⟨rfl, I, A, rfl, FrC.rf I, fun _ _ => rfl, rfl, h, rfl, rfl, al0, hb, hs, fun _ _ => rfl⟩
  · refine lp (n + 1) 0 p rd al0 I A (by omega) (by omega) h hb hs (FrC.rf I) (fun _ _ => rfl) rfl rfl (fun _ _ => rfl) ?_
    rw [h0, ← hR0]; unfold stkT; rw [if_neg (fun y => z (sg.mpr y))]
