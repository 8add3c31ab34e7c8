theorem sh_l : ∀ q, q < 6 → ((((4 * (nI (q + 1) - 1)) &&& 31 : Int32)).toBitVec.smod 32).toNat = 4 * q := on_sh

theorem r_8_following_0 {X : Ctx} (F : Fx X cX8_following RX8 4 2 0 0) {P O : Nat → Nat → Option Nat} (hP : laP P) {I A : Nat → Nat → Int32} {J : Nat → Nat → Int64} {pl : List Nat} (hB : inB pl) {x0 x1 : Int32}
    (e_1 : WA X (mC P O I A J) pl 0 0 2 [(0, .int x0), (1, .int x1), (2, .int 1)] []) :
    WA X (mC P O I A J) pl 0 0 0 [(0, .int x0), (1, .int x1)] [] := by
  refine a_iconst (v := 1) F dX8_following_0 (by decide) ?_
  refine a_istore_n F dX8_following_1 rfl (by decide) rfl ?_
  refine a_sub [1, 2, 0] rfl ?_
  exact e_1

theorem r_8_following_2 {X : Ctx} (F : Fx X cX8_following RX8 4 2 0 0) {Φ : Option Value → HS → List Nat → Prop} (E : Ex X (some .int) 0 0 Φ) {P O : Nat → Nat → Option Nat} (hP : laP P) {I A : Nat → Nat → Int32} {J : Nat → Nat → Int64} {pl : List Nat} (hB : inB pl) {x0 x1 x2 : Int32}
    (e_1 : (6 < x2) → Φ (some (.int (-1))) (mC P O I A J) pl)
    (e_2 : (¬ (6 < x2)) → WA X (mC P O I A J) pl 0 0 10 [(0, .int x0), (1, .int x1), (2, .int x2)] [.int x2, .int x0]) :
    WA X (mC P O I A J) pl 0 0 2 [(0, .int x0), (1, .int x1), (2, .int x2)] [] := by
  refine a_iload_n F 2 dX8_following_2 rfl rfl ?_
  refine a_bipush (v := 6) F dX8_following_3 (by decide) ?_
  refine a_icmp_gt (tgt := 41) F dX8_following_5 (by decide) (fun (c_1 : 6 < x2) => ?_) (fun (c_1 : ¬ (6 < x2)) => ?_)
  · refine a_iconst (v := (-1)) F dX8_following_41 (by decide) ?_
    exact a_iret F E dX8_following_42 (Nat.le_refl 0) (Nat.le_refl 0) (e_1 c_1)
  · refine a_iload_n F 0 dX8_following_8 rfl rfl ?_
    refine a_iload_n F 2 dX8_following_9 rfl rfl ?_
    exact e_2 c_1

theorem r_8_following_13 {X : Ctx} (F : Fx X cX8_following RX8 4 2 0 0) {P O : Nat → Nat → Option Nat} (hP : laP P) {I A : Nat → Nat → Int32} {J : Nat → Nat → Int64} {pl : List Nat} (hB : inB pl) {x0 x1 x2 b1 : Int32}
    (e_1 : WA X (mC P O I A J) pl 0 0 15 [(0, .int x0), (1, .int x1), (2, .int x2)] [.int x2, .int x1, .int b1]) :
    WA X (mC P O I A J) pl 0 0 13 [(0, .int x0), (1, .int x1), (2, .int x2)] [.int b1] := by
  refine a_iload_n F 1 dX8_following_13 rfl rfl ?_
  refine a_iload_n F 2 dX8_following_14 rfl rfl ?_
  exact e_1

theorem r_8_following_18 {X : Ctx} (F : Fx X cX8_following RX8 4 2 0 0) {Φ : Option Value → HS → List Nat → Prop} (E : Ex X (some .int) 0 0 Φ) {P O : Nat → Nat → Option Nat} (hP : laP P) {I A : Nat → Nat → Int32} {J : Nat → Nat → Int64} {pl : List Nat} (hB : inB pl) {x0 x1 x2 b2 b1 : Int32}
    (e_1 : (b2 ≤ b1) → WA X (mC P O I A J) pl 0 0 2 [(0, .int x0), (1, .int x1), (2, .int (x2 + 1))] [])
    (e_2 : (¬ (b2 ≤ b1)) → Φ (some (.int (((x0 >>> ((4 * (x2 - 1)) &&& 31)) + 1) <<< ((4 * (x2 - 1)) &&& 31)))) (mC P O I A J) pl) :
    WA X (mC P O I A J) pl 0 0 18 [(0, .int x0), (1, .int x1), (2, .int x2)] [.int b2, .int b1] := by
  refine a_icmp_ge (tgt := 35) F dX8_following_18 (by decide) (fun (c_2 : b2 ≤ b1) => ?_) (fun (c_2 : ¬ (b2 ≤ b1)) => ?_)
  · refine a_iinc (v := x2 + 1) F 2 dX8_following_35 rfl rfl (by decide) rfl ?_
    refine a_goto (tgt := 2) F dX8_following_38 (by decide) ?_
    refine a_sub [1, 2, 0] rfl ?_
    exact e_1 c_2
  · refine a_iconst (v := 4) F dX8_following_21 (by decide) ?_
    refine a_iload_n F 2 dX8_following_22 rfl rfl ?_
    refine a_iconst (v := 1) F dX8_following_23 (by decide) ?_
    refine a_isub F dX8_following_24 ?_
    refine a_imul F dX8_following_25 ?_
    refine a_istore_n F dX8_following_26 rfl (by decide) rfl ?_
    refine a_iload_n F 1 dX8_following_27 rfl rfl ?_
    refine a_iload_n F 0 dX8_following_28 rfl rfl ?_
    refine a_ishr F dX8_following_29 ?_
    refine a_iconst (v := 1) F dX8_following_30 (by decide) ?_
    refine a_iadd F dX8_following_31 ?_
    refine a_iload_n F 0 dX8_following_32 rfl rfl ?_
    refine a_ishl F dX8_following_33 ?_
    exact a_iret F E dX8_following_34 (Nat.le_refl 0) (Nat.le_refl 0) (e_2 c_2)

set_option maxRecDepth 100000 in
theorem c_8_following (l : Launch) {P O : Nat → Nat → Option Nat} (hP : laP P) (I A : Nat → Nat → Int32) (J : Nat → Nat → Int64) {pl : List Nat} (hB : inB pl) (s b : Nat) (hs : stnd s) (hb : stnd b) : Con l 2 yX8_following cX8_following 4 (some .int) [.int (nI s), .int (nI b)] (mC P O I A J) pl 0 0 (fun r σ' pl' => pl = pl' ∧ σ' = mC P O I A J ∧ ((∃ p, 1 ≤ p ∧ p ≤ 6 ∧ mfN s p < mfN b p ∧ (∀ q, 1 ≤ q → q < p → mfN b q ≤ mfN s q) ∧ r = some (.int (nI ((s / 16 ^ (p - 1) + 1) * 16 ^ (p - 1))))) ∨ ((∀ q, 1 ≤ q → q ≤ 6 → mfN b q ≤ mfN s q) ∧ r = some (.int (-1))))) := by
  refine Con.of (by decide) (Nat.le_of_ble_eq_true rfl) (fun X hX9 hn9 F E => ?_)
  have hs2 : s < 2 ^ 31 := by have := hs.1; omega
  have hb2 : b < 2 ^ 31 := by have := hb.1; omega
  have lp : ∀ f p, p + f = 7 → 1 ≤ p → (∀ q, 1 ≤ q → q < p → mfN b q ≤ mfN s q) → WA X (mC P O I A J) pl 0 0 2 [(0, .int (nI s)), (1, .int (nI b)), (2, .int (nI p))] [] := by
    intro f
    induction f with
    | zero =>
      intro p hp _ hq
      obtain rfl : p = 7 := by omega
      refine r_8_following_2 F E hP hB (fun _ => ⟨rfl, rfl, Or.inr ⟨fun q a b => hq q a (by omega), rfl⟩⟩) (fun z => absurd (by decide) z)
    | succ f ih =>
      intro p hp p1 hq
      have h : ¬ (6 : Int32) < nI p := fun z => by have := (nI_gtn 6 (by omega) (by omega)).mp z; omega
      have m1 := mf_le hs p p1 (by omega)
      have m2 := mf_le hb p p1 (by omega)
      refine r_8_following_2 F E hP hB (fun z => absurd z h) (fun _ => ?_)
      refine a_callS (As := [.int (nI s), .int (nI p)]) (st := []) F (c_8_menFrom (xl X) hP I A J hB s p hs2 p1 (by omega)) ml_8_51 sm_yX8_menFrom (by decide) rfl dX8_following_10 (by decide) (Nat.le_refl 0) (Nat.le_refl 0) (hl_i (hl_i (hl_i hl_nil))) hs_nil ?_
      rintro _ _ _ ⟨rfl, rfl, rfl⟩ _
      refine r_8_following_13 F hP hB ?_
      refine a_callS (As := [.int (nI b), .int (nI p)]) (st := [.int (nI (mfN s p))]) F (c_8_menFrom (xl X) hP I A J hB b p hb2 p1 (by omega)) ml_8_51 sm_yX8_menFrom (by decide) rfl dX8_following_15 (Nat.le_of_ble_eq_true rfl) (Nat.le_refl 0) (Nat.le_refl 0) (hl_i (hl_i (hl_i hl_nil))) (hs_i hs_nil) ?_
      rintro _ _ _ ⟨rfl, rfl, rfl⟩ _
      have cc9 : nI (mfN b p) ≤ nI (mfN s p) ↔ mfN b p ≤ mfN s p := nI_leI (by omega) (by omega)
      refine r_8_following_18 F E hP hB (fun z => ?_) (fun z => ?_)
      · rw [nI_1]
        refine ih (p + 1) (by omega) (by omega) (fun q a c => ?_)
        by_cases e : q = p
        · rw [e]; exact cc9.mp z
        · exact hq q a (by omega)
      · refine ⟨rfl, rfl, Or.inl ⟨p, p1, by omega, Nat.lt_of_not_le (fun y => z (cc9.mpr y)), hq, ?_⟩⟩
        have e0 : 4 * (nI p - 1) = nI (4 * (p - 1)) := by rw [show nI p - 1 = nI (p - 1) from pk_sub (b := 1) p1, lit 4, pk_mul]
        have e1 : nI s >>> ((4 * (nI p - 1)) &&& 31) = nI (s / 16 ^ (p - 1)) := by
          have := sh_l (p - 1) (by omega); rw [show p - 1 + 1 = p by omega] at this
          rw [pk_shrN hs2 _ (4 * (p - 1)) this, Nat.pow_mul]
        have hdv : s / 16 ^ (p - 1) ≤ s := Nat.div_le_self _ _
        have e2 : nI (s / 16 ^ (p - 1) + 1) <<< ((4 * (nI p - 1)) &&& 31) = nI ((s / 16 ^ (p - 1) + 1) * 16 ^ (p - 1)) := by
          have := sh_l (p - 1) (by omega); rw [show p - 1 + 1 = p by omega] at this
          have e16 : (2 : Nat) ^ (4 * (p - 1)) = 16 ^ (p - 1) := by rw [Nat.pow_mul]
          have b1 := Nat.div_mul_le_self s (16 ^ (p - 1))
          have b2 : (16 : Nat) ^ (p - 1) ≤ 16 ^ 5 := Nat.pow_le_pow_right (by decide) (by omega)
          have b3 := hs.1
          rw [pk_shlN _ (4 * (p - 1)) this (by rw [e16, Nat.add_mul]; omega), e16]
        rw [e1, nI_1, e2]
  exact r_8_following_0 F hP hB (lp 6 1 rfl (Nat.le_refl _) (fun q a b => by omega))

theorem cnt_big : ∀ p m L, p * m < L → cnt p m L = 0
  | 0, m, L, h => by rw [Nat.zero_mul] at h; show (if L = 0 then 1 else 0) = 0; rw [if_neg (by omega)]
  | p + 1, m, L, h => by
    rw [cnt_e]
    have z : ∀ j, j < m + 1 → cnF p m L (0 + j) = (fun _ => 0) (0 + j) := fun j hj => by
      rw [Nat.zero_add]
      unfold cnF
      by_cases c : j * (p + 1) ≤ L
      · rw [if_pos c]
        refine cnt_big p (m - j) (L - j * (p + 1)) ?_
        have e : (p + 1) * m = p * (m - j) + j * (p + 1) + (m - j) := by
          obtain ⟨r, rfl⟩ : ∃ r, m = j + r := ⟨m - j, by omega⟩
          rw [show j + r - j = r by omega, Nat.add_mul, Nat.one_mul, Nat.mul_add, Nat.mul_add, Nat.mul_one, Nat.mul_comm p j]; omega
        omega
      · rw [if_neg c]
    rw [su_cg (g := fun _ => 0) (m + 1) z]
    exact su_00 (m + 1)
theorem cnt_z : ∀ p m, cnt p m 0 = 1
  | 0, m => rfl
  | p + 1, m => by
    rw [cnt_e]
    have e : sumB (cnF p m 0) 0 (m + 1) = sumB (cnF p m 0) 0 1 := su_tail (m + 1) (by omega) (fun h h1 h2 => by
      unfold cnF; rw [if_neg]; intro z; have : 1 * 1 ≤ h * (p + 1) := Nat.mul_le_mul h1 (by omega); omega)
    rw [e]
    show 0 + cnF p m 0 (0 + 0) = 1
    unfold cnF; rw [if_pos (by rw [Nat.zero_mul]; exact Nat.le_refl _), Nat.zero_add, Nat.zero_mul]; exact cnt_z p m
theorem cnt_o {m L : Nat} (h : L ≤ m) : cnt 1 m L = 1 := by
  rw [cnt_e]
  have z : ∀ j, j < m + 1 → cnF 0 m L (0 + j) = (fun h => if h = L then 1 else 0) (0 + j) := fun j hj => by
    rw [Nat.zero_add]
    unfold cnF
    by_cases c : j * (0 + 1) ≤ L
    · rw [if_pos c]; show (if L - j * (0 + 1) = 0 then 1 else 0) = if j = L then 1 else 0
      by_cases c2 : j = L
      · rw [if_pos c2, if_pos (by omega)]
      · rw [if_neg c2, if_neg (by omega)]
    · rw [if_neg c]; show 0 = if j = L then 1 else 0; rw [if_neg (by omega)]
  rw [su_cg (g := fun h => if h = L then 1 else 0) (m + 1) z, su_one, if_pos (by omega)]

theorem r_8_howMany_0 {X : Ctx} {d9 : Nat} (F : Fx X cX8_howMany RX8 5 d9 0 0) {Φ : Option Value → HS → List Nat → Prop} (E : Ex X (some .int) 0 0 Φ) {P O : Nat → Nat → Option Nat} (hP : laP P) {I A : Nat → Nat → Int32} {J : Nat → Nat → Int64} {pl : List Nat} (hB : inB pl) {x0 x1 x2 : Int32}
    (e_1 : (¬ x2 = 0) → (x0 < 1) → Φ (some (.int 0)) (mC P O I A J) pl)
    (e_2 : (¬ x2 = 0) → (¬ (x0 < 1)) → (x2 ≤ (x0 * x1)) → (¬ x0 = 1) → WA X (mC P O I A J) pl 0 0 32 [(0, .int x0), (1, .int x1), (2, .int x2), (3, .int 0), (4, .int 0)] [])
    (e_3 : (¬ x2 = 0) → (¬ (x0 < 1)) → (x2 ≤ (x0 * x1)) → (x0 = 1) → Φ (some (.int 1)) (mC P O I A J) pl)
    (e_4 : (¬ x2 = 0) → (¬ (x0 < 1)) → (¬ (x2 ≤ (x0 * x1))) → Φ (some (.int 0)) (mC P O I A J) pl)
    (e_5 : (x2 = 0) → Φ (some (.int 1)) (mC P O I A J) pl) :
    WA X (mC P O I A J) pl 0 0 0 [(0, .int x0), (1, .int x1), (2, .int x2)] [] := by
  refine a_iload_n F 2 dX8_howMany_0 rfl rfl ?_
  refine a_if_ne (tgt := 6) F dX8_howMany_1 (by decide) (fun (c_1 : ¬ x2 = 0) => ?_) (fun (c_1 : x2 = 0) => ?_)
  · refine a_iload_n F 0 dX8_howMany_6 rfl rfl ?_
    refine a_iconst (v := 1) F dX8_howMany_7 (by decide) ?_
    refine a_icmp_lt (tgt := 18) F dX8_howMany_8 (by decide) (fun (c_2 : x0 < 1) => ?_) (fun (c_2 : ¬ (x0 < 1)) => ?_)
    · refine a_iconst (v := 0) F dX8_howMany_18 (by decide) ?_
      exact a_iret F E dX8_howMany_19 (Nat.le_refl 0) (Nat.le_refl 0) (e_1 c_1 c_2)
    · refine a_iload_n F 0 dX8_howMany_11 rfl rfl ?_
      refine a_iload_n F 1 dX8_howMany_12 rfl rfl ?_
      refine a_imul F dX8_howMany_13 ?_
      refine a_iload_n F 2 dX8_howMany_14 rfl rfl ?_
      refine a_icmp_ge (tgt := 20) F dX8_howMany_15 (by decide) (fun (c_3 : x2 ≤ (x0 * x1)) => ?_) (fun (c_3 : ¬ (x2 ≤ (x0 * x1))) => ?_)
      · refine a_iload_n F 0 dX8_howMany_20 rfl rfl ?_
        refine a_iconst (v := 1) F dX8_howMany_21 (by decide) ?_
        refine a_icmp_ne (tgt := 27) F dX8_howMany_22 (by decide) (fun (c_4 : ¬ x0 = 1) => ?_) (fun (c_4 : x0 = 1) => ?_)
        · refine a_iconst (v := 0) F dX8_howMany_27 (by decide) ?_
          refine a_istore_n F dX8_howMany_28 rfl (by decide) rfl ?_
          refine a_iconst (v := 0) F dX8_howMany_29 (by decide) ?_
          refine a_istore F dX8_howMany_30 (by decide) rfl ?_
          refine a_sub [2, 3, 4, 1, 0] rfl ?_
          exact e_2 c_1 c_2 c_3 c_4
        · refine a_iconst (v := 1) F dX8_howMany_25 (by decide) ?_
          exact a_iret F E dX8_howMany_26 (Nat.le_refl 0) (Nat.le_refl 0) (e_3 c_1 c_2 c_3 c_4)
      · refine a_iconst (v := 0) F dX8_howMany_18 (by decide) ?_
        exact a_iret F E dX8_howMany_19 (Nat.le_refl 0) (Nat.le_refl 0) (e_4 c_1 c_2 c_3)
  · refine a_iconst (v := 1) F dX8_howMany_4 (by decide) ?_
    exact a_iret F E dX8_howMany_5 (Nat.le_refl 0) (Nat.le_refl 0) (e_5 c_1)

theorem r_8_howMany_32 {X : Ctx} {d9 : Nat} (F : Fx X cX8_howMany RX8 5 d9 0 0) {Φ : Option Value → HS → List Nat → Prop} (E : Ex X (some .int) 0 0 Φ) {P O : Nat → Nat → Option Nat} (hP : laP P) {I A : Nat → Nat → Int32} {J : Nat → Nat → Int64} {pl : List Nat} (hB : inB pl) {x0 x1 x2 x3 x4 : Int32}
    (e_1 : (x1 < x4) → Φ (some (.int x3)) (mC P O I A J) pl)
    (e_2 : (¬ (x1 < x4)) → (x2 < (x4 * x0)) → Φ (some (.int x3)) (mC P O I A J) pl)
    (e_3 : (¬ (x1 < x4)) → (¬ (x2 < (x4 * x0))) → WA X (mC P O I A J) pl 0 0 60 [(0, .int x0), (1, .int x1), (2, .int x2), (3, .int x3), (4, .int x4)] [.int (x2 - (x4 * x0)), .int (x1 - x4), .int (x0 - 1), .int x3]) :
    WA X (mC P O I A J) pl 0 0 32 [(0, .int x0), (1, .int x1), (2, .int x2), (3, .int x3), (4, .int x4)] [] := by
  refine a_iload F 4 dX8_howMany_32 rfl ?_
  refine a_iload_n F 1 dX8_howMany_34 rfl rfl ?_
  refine a_icmp_gt (tgt := 71) F dX8_howMany_35 (by decide) (fun (c_5 : x1 < x4) => ?_) (fun (c_5 : ¬ (x1 < x4)) => ?_)
  · refine a_iload_n F 3 dX8_howMany_71 rfl rfl ?_
    exact a_iret F E dX8_howMany_72 (Nat.le_refl 0) (Nat.le_refl 0) (e_1 c_5)
  · refine a_iload F 4 dX8_howMany_38 rfl ?_
    refine a_iload_n F 0 dX8_howMany_40 rfl rfl ?_
    refine a_imul F dX8_howMany_41 ?_
    refine a_iload_n F 2 dX8_howMany_42 rfl rfl ?_
    refine a_icmp_gt (tgt := 71) F dX8_howMany_43 (by decide) (fun (c_6 : x2 < (x4 * x0)) => ?_) (fun (c_6 : ¬ (x2 < (x4 * x0))) => ?_)
    · refine a_iload_n F 3 dX8_howMany_71 rfl rfl ?_
      exact a_iret F E dX8_howMany_72 (Nat.le_refl 0) (Nat.le_refl 0) (e_2 c_5 c_6)
    · refine a_iload_n F 3 dX8_howMany_46 rfl rfl ?_
      refine a_iload_n F 0 dX8_howMany_47 rfl rfl ?_
      refine a_iconst (v := 1) F dX8_howMany_48 (by decide) ?_
      refine a_isub F dX8_howMany_49 ?_
      refine a_iload_n F 1 dX8_howMany_50 rfl rfl ?_
      refine a_iload F 4 dX8_howMany_51 rfl ?_
      refine a_isub F dX8_howMany_53 ?_
      refine a_iload_n F 2 dX8_howMany_54 rfl rfl ?_
      refine a_iload F 4 dX8_howMany_55 rfl ?_
      refine a_iload_n F 0 dX8_howMany_57 rfl rfl ?_
      refine a_imul F dX8_howMany_58 ?_
      refine a_isub F dX8_howMany_59 ?_
      exact e_3 c_5 c_6

theorem r_8_howMany_63 {X : Ctx} {d9 : Nat} (F : Fx X cX8_howMany RX8 5 d9 0 0) {P O : Nat → Nat → Option Nat} (hP : laP P) {I A : Nat → Nat → Int32} {J : Nat → Nat → Int64} {pl : List Nat} (hB : inB pl) {x0 x1 x2 x3 x4 b1 x9 : Int32}
    (e_1 : WA X (mC P O I A J) pl 0 0 32 [(0, .int x0), (1, .int x1), (2, .int x2), (3, .int (x9 + b1)), (4, .int (x4 + 1))] []) :
    WA X (mC P O I A J) pl 0 0 63 [(0, .int x0), (1, .int x1), (2, .int x2), (3, .int x3), (4, .int x4)] [.int b1, .int x9] := by
  refine a_iadd F dX8_howMany_63 ?_
  refine a_istore_n F dX8_howMany_64 rfl (by decide) rfl ?_
  refine a_iinc (v := x4 + 1) F 4 dX8_howMany_65 rfl rfl (by decide) rfl ?_
  refine a_goto (tgt := 32) F dX8_howMany_68 (by decide) ?_
  refine a_sub [2, 3, 4, 1, 0] rfl ?_
  exact e_1

theorem c_8_howMany (l : Launch) {P O : Nat → Nat → Option Nat} (hP : laP P) (I A : Nat → Nat → Int32) (J : Nat → Nat → Int64) {pl : List Nat} (hB : inB pl) : ∀ p m L, p ≤ 6 → m ≤ 15 → L ≤ 90 → Con l (p + 1) yX8_howMany cX8_howMany 5 (some .int) [.int (nI p), .int (nI m), .int (nI L)] (mC P O I A J) pl 0 0 (PC (some (.int (nI (cnt p m L)))) P O I A J pl) := by
  intro p
  induction p with
  | zero =>
    intro m L hp hm hL
    refine Con.of (by decide) (Nat.le_of_ble_eq_true rfl) (fun X hX9 hn9 F E => ?_)
    have c0 : nI L = 0 ↔ L = 0 := nI_z (by omega)
    refine r_8_howMany_0 F E hP hB (fun z _ => ?_) (fun _ z => absurd (by decide) z) (fun _ z => absurd (by decide) z) (fun _ z => absurd (by decide) z) (fun z => ?_)
    · refine ⟨?_, rfl, rfl⟩
      rw [show cnt 0 m L = 0 from if_neg (fun y => z (c0.mpr y))]; rfl
    · rw [c0.mp z, cnt_z]; exact ⟨rfl, rfl, rfl⟩
  | succ p ihp =>
    intro m L hp hm hL
    refine Con.of (by decide) (Nat.le_of_ble_eq_true rfl) (fun X hX9 hn9 F E => ?_)
    have c0 : nI L = 0 ↔ L = 0 := nI_z (by omega)
    have pm : (p + 1) * m ≤ 6 * 15 := Nat.mul_le_mul hp hm
    have n1 : ¬ nI (p + 1) < 1 := fun z => by have := (nI_ltn 1 (by omega) (by omega)).mp z; omega
    have cm : nI L ≤ nI (p + 1) * nI m ↔ L ≤ (p + 1) * m := by rw [pk_mul]; exact nI_leI (by omega) (by omega)
    have c1 : nI (p + 1) = 1 ↔ p + 1 = 1 := nI_eqn 1 (by omega) (by omega)
    refine r_8_howMany_0 F E hP hB (fun _ z => absurd z n1) (fun z _ y w => ?_) (fun z _ y w => ?_) (fun z _ y => ?_) (fun z => ?_)
    rotate_left
    · have w := c1.mp w
      obtain rfl : p = 0 := by omega
      have y := cm.mp y
      rw [show cnt (0 + 1) m L = 1 from cnt_o (by omega)]; exact ⟨rfl, rfl, rfl⟩
    · rw [cnt_big (p + 1) m L (Nat.lt_of_not_le (fun u => y (cm.mpr u)))]; exact ⟨rfl, rfl, rfl⟩
    · rw [c0.mp z, cnt_z]; exact ⟨rfl, rfl, rfl⟩
    have lp : ∀ f h, h + f = m + 1 → WA X (mC P O I A J) pl 0 0 32 [(0, .int (nI (p + 1))), (1, .int (nI m)), (2, .int (nI L)), (3, .int (nI (sumB (cnF p m L) 0 h))), (4, .int (nI h))] [] := by
      intro f
      induction f with
      | zero =>
        intro h hh
        obtain rfl : h = m + 1 := by omega
        have lt : nI m < nI (m + 1) := (nI_ltI (by omega) (by omega)).mpr (by omega)
        exact r_8_howMany_32 F E hP hB (fun _ => ⟨rfl, rfl, rfl⟩) (fun z => absurd lt z) (fun z => absurd lt z)
      | succ f ih =>
        intro h hh
        have nlt : ¬ nI m < nI h := fun z => by have := (nI_ltI (by omega) (by omega)).mp z; omega
        have hb9 : h * (p + 1) ≤ 15 * 6 := Nat.mul_le_mul (by omega) hp
        have cl9 : nI L < nI h * nI (p + 1) ↔ L < h * (p + 1) := by rw [pk_mul]; exact nI_ltI (by omega) (by omega)
        refine r_8_howMany_32 F E hP hB (fun z => absurd z nlt) (fun _ z => ?_) (fun _ z => ?_)
        · have z := cl9.mp z
          refine ⟨?_, rfl, rfl⟩
          rw [cnt_e]
          rw [su_tail (f := cnF p m L) (k := h) (m + 1) (by omega) (fun j j1 j2 => ?_)]
          unfold cnF; rw [if_neg]; have : h * (p + 1) ≤ j * (p + 1) := Nat.mul_le_mul_right _ j1; omega
        · have z := Nat.le_of_not_lt (fun y => z (cl9.mpr y))
          rw [pk_mul, pk_sub z, pk_sub (show h ≤ m by omega), show nI (p + 1) - 1 = nI p from pk_sub (a := p + 1) (b := 1) (by omega)]
          refine a_callS (As := [.int (nI p), .int (nI (m - h)), .int (nI (L - h * (p + 1)))]) (st := [.int (nI (sumB (cnF p m L) 0 h))]) F (hX9 ▸ ihp (m - h) (L - h * (p + 1)) (by omega) (by omega) (by omega)) ml_8_55 sm_yX8_howMany (by omega) rfl dX8_howMany_60 (Nat.le_of_ble_eq_true rfl) (Nat.le_refl 0) (Nat.le_refl 0) (hl_i (hl_i (hl_i (hl_i (hl_i hl_nil))))) (hs_i hs_nil) ?_
          rintro _ _ _ ⟨rfl, rfl, rfl⟩ _
          refine r_8_howMany_63 F hP hB ?_
          rw [nI_add, nI_1]
          have e9 : sumB (cnF p m L) 0 (h + 1) = sumB (cnF p m L) 0 h + cnt p (m - h) (L - h * (p + 1)) := by
            show _ + cnF p m L (0 + h) = _; rw [Nat.zero_add]; unfold cnF; rw [if_pos z]
          have := ih (h + 1) (by omega)
          rw [e9] at this
          exact this
    exact lp (m + 1) 0 (by omega)
