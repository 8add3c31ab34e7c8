def nbQ (P O : Nat → Nat → Option Nat) (I A : Nat → Nat → Int32) (J : Nat → Nat → Int64) (pl : List Nat) (v : Nat) : Option Value → HS → List Nat → Prop := fun r σ' pl' => r = none ∧ pl = pl' ∧ ∃ J', σ' = mC P O I A J' ∧ (∀ q, q ≠ 143 → q ≠ 147 → q ≠ 149 → J' q = J q) ∧ digW (J' 143) 6 ∧ valW (J' 143) 6 = v
theorem lN_m {a b : Nat} (h : b ≤ a) : lN a - lN b = lN (a - b) := by
  have e := lN_p (a - b) b
  rw [Nat.sub_add_cancel h] at e
  rw [← e]; exact Int64.add_sub_cancel _ _
noncomputable def byN (x n : Nat) : Nat := if n = 0 then 0 else wN n x * 36 ^ (12 - n)
noncomputable def rvN (y n : Nat) : Nat := wN (n - 1) y * 36 ^ (13 - n)
noncomputable def raC (x y : Nat) : Nat := sumB (fun n => (byN x n - byN x (n - 1)) * (36 ^ 12 - rvN y n)) 1 12
theorem by_le {x n : Nat} (hx : stnd x) (hn : n ≤ 12) : byN x n ≤ 36 ^ 12 := by
  unfold byN
  by_cases c : n = 0
  · rw [if_pos c]; exact Nat.zero_le _
  · rw [if_neg c]
    refine Nat.le_trans (Nat.mul_le_mul_right _ (wN_le n hx)) ?_
    rw [← Nat.pow_add, show n + (12 - n) = 12 by omega]; exact Nat.le_refl _
theorem by_up {x n : Nat} (hx : stnd x) (h1 : 1 ≤ n) (hn : n ≤ 12) : byN x (n - 1) ≤ byN x n := by
  unfold byN
  by_cases c : n - 1 = 0
  · rw [if_pos c]; exact Nat.zero_le _
  · rw [if_neg c, if_neg (by omega)]
    have := wN_up (n - 1) hx
    rw [show n - 1 + 1 = n by omega] at this
    rw [show 12 - (n - 1) = (12 - n) + 1 by omega, Nat.pow_succ, Nat.mul_comm (36 ^ (12 - n)), ← Nat.mul_assoc, Nat.mul_comm (wN (n - 1) x)]
    exact Nat.mul_le_mul_right _ this
theorem rv_le {y n : Nat} (hy : stnd y) (h1 : 1 ≤ n) (hn : n ≤ 12) : rvN y n ≤ 36 ^ 12 := by
  unfold rvN
  refine Nat.le_trans (Nat.mul_le_mul_right _ (wN_le (n - 1) hy)) ?_
  rw [← Nat.pow_add, show n - 1 + (13 - n) = 12 by omega]; exact Nat.le_refl _
theorem p12_b : 36 ^ 12 < 2 ^ 63 := by decide
theorem raC_b {x y : Nat} (hx : stnd x) : raC x y < 2 ^ 186 := by
  have := su_bd (f := fun n => (byN x n - byN x (n - 1)) * (36 ^ 12 - rvN y n)) (o := 1) (c := 36 ^ 12 * 36 ^ 12) 12 (fun k hk => Nat.mul_le_mul (Nat.le_trans (Nat.sub_le _ _) (by_le hx (by omega))) (Nat.sub_le _ _))
  exact Nat.lt_of_le_of_lt this (by decide)

theorem r_8_putRolls_0 {X : Ctx} (F : Fx X cX8_putRolls RX8 5 3 0 0) {P O : Nat → Nat → Option Nat} (hP : laP P) {I A : Nat → Nat → Int32} {J : Nat → Nat → Int64} {pl : List Nat} (hB : inB pl) {x1 : Int32} {q2 : Nat} (hk_q2 : kC q2 = 10) (hp_q2 : q2 ∈ pl) (hq_q2 : q2 + 1 ∈ pl)
    (o_1 : stdI x1)
    (o_2 : rkT (A 118))
    (e_3 : WA X (mC P O I A J) pl 0 0 8 [(3, .int (rkI x1)), (0, .ref 116), (1, .int x1), (2, .ref q2)] [.int (rkI x1), .ref 116]) :
    WA X (mC P O I A J) pl 0 0 0 [(0, .ref 116), (1, .int x1), (2, .ref q2)] [] := by
  refine a_aload_n F 0 dX8_putRolls_0 rfl rfl ?_
  refine a_iload_n F 1 dX8_putRolls_1 rfl rfl ?_
  refine a_callV (b := 116) (As := [.int x1]) (st := []) (ci := 8) F (c_8_rankOfI (xl X) hP I A J hB x1 (o_1) (o_2)) ml_8_74 im_yX8_rankOf se_yX8_rankOf (by decide) (by decide) rfl (hB _ (by decide)) rfl rfl dX8_putRolls_2 (by decide) (Nat.le_refl 0) (Nat.le_refl 0) (hl_r (hB _ (by decide)) (hl_i (hl_r (hp_q2) hl_nil))) hs_nil ?_
  rintro _ _ _ ⟨rfl, rfl, rfl⟩ _
  show WA X (mC P O I A J) pl 0 0 5 [(0, .ref 116), (1, .int x1), (2, .ref q2)] [.int (rkI x1)]
  refine a_istore_n F dX8_putRolls_5 rfl (by decide) rfl ?_
  refine a_aload_n F 1 dX8_putRolls_6 rfl rfl ?_
  refine a_iload_n F 0 dX8_putRolls_7 rfl rfl ?_
  exact e_3

theorem r_8_putRolls_13 {X : Ctx} (F : Fx X cX8_putRolls RX8 5 3 0 0) {P O : Nat → Nat → Option Nat} (hP : laP P) {I A : Nat → Nat → Int32} {J : Nat → Nat → Int64} {pl : List Nat} (hB : inB pl) {x1 x3 : Int32} {q2 : Nat} (hk_q2 : kC q2 = 10) (hp_q2 : q2 ∈ pl) (hq_q2 : q2 + 1 ∈ pl) {q9 : Nat} (hk_q9 : kC q9 = 7) (hp_q9 : q9 ∈ pl) (hq_q9 : q9 + 1 ∈ pl)
    (e_1 : WA X (mC P O I A J) pl 0 0 15 [(0, .ref 116), (1, .int x1), (2, .ref q2), (3, .int x3), (4, .ref q9)] [.long 0, .ref q2]) :
    WA X (mC P O I A J) pl 0 0 13 [(0, .ref 116), (1, .int x1), (2, .ref q2), (3, .int x3), (4, .ref q9)] [] := by
  refine a_aload_n F 2 dX8_putRolls_13 rfl rfl ?_
  refine a_lconst (v := 0) F dX8_putRolls_14 (by decide) ?_
  exact e_1

theorem r_8_putRolls_11 {X : Ctx} (F : Fx X cX8_putRolls RX8 5 3 0 0) {P O : Nat → Nat → Option Nat} (hP : laP P) {I A : Nat → Nat → Int32} {J : Nat → Nat → Int64} {pl : List Nat} (hB : inB pl) {x1 x3 : Int32} {q9 : Nat} (hk_q9 : kC q9 = 7) (hp_q9 : q9 ∈ pl) (hq_q9 : q9 + 1 ∈ pl)
    (e_1 : WA X (mC P O I A J) pl 0 0 13 [(0, .ref 116), (1, .int x1), (2, .ref 142), (3, .int x3), (4, .ref q9)] []) :
    WA X (mC P O I A J) pl 0 0 11 [(0, .ref 116), (1, .int x1), (2, .ref 142), (3, .int x3)] [.ref q9] := by
  refine a_astore F dX8_putRolls_11 (by decide) rfl ?_
  refine a_sub [1, 2, 3, 4, 0] rfl ?_
  exact e_1

theorem r_8_putRolls_18 {X : Ctx} (F : Fx X cX8_putRolls RX8 5 3 0 0) {P O : Nat → Nat → Option Nat} (hP : laP P) {I A : Nat → Nat → Int32} {J : Nat → Nat → Int64} {pl : List Nat} (hB : inB pl) {x1 x3 : Int32} {q9 : Nat} (hk_q9 : kC q9 = 7) (hp_q9 : q9 ∈ pl) (hq_q9 : q9 + 1 ∈ pl)
    (o_1 : 0 ≤ x3)
    (e_2 : WA X (mC P O I A J) pl 0 0 34 [(0, .ref 116), (1, .int x1), (2, .ref 142), (3, .int x3), (4, .ref q9)] [.int 1, .int (ceI x3), .ref (q9 + 1), .ref 142]) :
    WA X (mC P O I A J) pl 0 0 18 [(0, .ref 116), (1, .int x1), (2, .ref 142), (3, .int x3), (4, .ref q9)] [] := by
  refine a_aload F 4 dX8_putRolls_18 rfl ?_
  refine a_ifnull F dX8_putRolls_20 ?_
  refine a_aload_n F 2 dX8_putRolls_23 rfl rfl ?_
  refine a_aload F 4 dX8_putRolls_24 rfl ?_
  refine a_getr (b := (q9 + 1)) F fl_8_82 rfl (hp_q9) hk_q9 (laP_sh hP hk_q9) dX8_putRolls_26 ?_
  refine a_iload_n F 3 dX8_putRolls_29 rfl rfl ?_
  refine a_callS (As := [.int x3]) (st := [.ref (q9 + 1), .ref 142]) F (c_8_cellOfI (xl X) hP I A J hB x3 (o_1)) ml_8_85 sm_yX8_cellOf (by decide) rfl dX8_putRolls_30 (Nat.le_of_ble_eq_true rfl) (Nat.le_refl 0) (Nat.le_refl 0) (hl_r (hB _ (by decide)) (hl_i (hl_r (hB _ (by decide)) (hl_i (hl_r (hp_q9) hl_nil))))) (hs_r (hq_q9) (hs_r (hB _ (by decide)) hs_nil)) ?_
  rintro _ _ _ ⟨rfl, rfl, rfl⟩ _
  show WA X (mC P O I A J) pl 0 0 33 [(0, .ref 116), (1, .int x1), (2, .ref 142), (3, .int x3), (4, .ref q9)] [.int (ceI x3), .ref (q9 + 1), .ref 142]
  refine a_iconst (v := 1) F dX8_putRolls_33 (by decide) ?_
  exact e_2

theorem r_8_putRolls_37 {X : Ctx} (F : Fx X cX8_putRolls RX8 5 3 0 0) {Φ : Option Value → HS → List Nat → Prop} (E : Ex X none 0 0 Φ) {P O : Nat → Nat → Option Nat} (hP : laP P) {I A : Nat → Nat → Int32} {J : Nat → Nat → Int64} {pl : List Nat} (hB : inB pl) {x1 x3 : Int32} {q9 : Nat} (hk_q9 : kC q9 = 7) (hp_q9 : q9 ∈ pl) (hq_q9 : q9 + 1 ∈ pl)
    (e_1 : Φ none (mC P O I A J) pl) :
    WA X (mC P O I A J) pl 0 0 37 [(0, .ref 116), (1, .int x1), (2, .ref 142), (3, .int x3), (4, .ref q9)] [] := by
  exact a_vret F E dX8_putRolls_37 (Nat.le_refl 0) (Nat.le_refl 0) (e_1)

set_option maxRecDepth 10000 in
theorem c_8_putRolls (l : Launch) {P O : Nat → Nat → Option Nat} (hP : laP P) (I A : Nat → Nat → Int32) (J : Nat → Nat → Int64) {pl : List Nat} (hB : inB pl) (s : Nat) (hO : shO O pl) (hs : stnd s) (ht : rkT (A 118)) (hd : dnC O J s) : Con l 3 yX8_putRolls cX8_putRolls 5 none [.ref 116, .int (nI s), .ref 142] (mC P O I A J) pl 0 0 (nbQ P O I A J pl (eF 32 s)) := by
  refine Con.of (by decide) (Nat.le_of_ble_eq_true rfl) (fun X hX9 hn9 F E => ?_)
  have hs2 : s < 2 ^ 31 := by have := hs.1; omega
  have hb := rk_b hs
  refine r_8_putRolls_0 F hP hB (q2 := 142) rfl (hB _ (by decide)) (hB _ (by decide)) ((std_n hs2).mpr hs) ht ?_
  rw [rkI_n hs]
  refine a_callV (b := 116) (As := [.int (nI (rkN s))]) (st := []) (ci := 8) F (c_8_shelfOf (xl X) hP I A J hB (rkN s) hO hb) ml_8_78 im_yX8_shelfOf se_yX8_shelfOf (by decide) (by decide) rfl (hB _ (by decide)) rfl rfl dX8_putRolls_8 (by decide) (Nat.le_refl 0) (Nat.le_refl 0) (hl_i (hl_r (hB _ (by decide)) (hl_i (hl_r (hB _ (by decide)) hl_nil)))) hs_nil ?_
  rintro _ _ _ ⟨rfl, rfl, rfl⟩ _
  obtain ⟨o1, m1, m2⟩ : O 117 (rkN s / 64) = some (1000 + 2 * (rkN s / 64)) ∧ 1000 + 2 * (rkN s / 64) ∈ pl ∧ 1000 + 2 * (rkN s / 64) + 1 ∈ pl := by
    rcases hO (rkN s / 64) (by omega) with ⟨o1, o2, o3⟩ | ⟨o1, -⟩
    · exact ⟨o1, o2, by rw [show 1000 + 2 * (rkN s / 64) + 1 = 1001 + 2 * (rkN s / 64) by omega]; exact o3⟩
    · rw [hd.1] at o1; exact nomatch o1
  rw [o1]
  refine a_sub [1, 2, 3, 0] rfl ?_
  refine r_8_putRolls_11 F hP hB (kC_sh _) m1 m2 ?_
  refine r_8_putRolls_13 F hP hB (q2 := 142) rfl (hB _ (by decide)) (hB _ (by decide)) (kC_sh _) m1 m2 ?_
  refine a_callV (b := 142) (As := [.long (lN 0)]) (st := []) (ci := 10) F (c_10_set (xl X) hP I A J hB 142 rfl (hB _ (by decide)) (hB _ (by decide)) 0 (by decide)) ml_8_43 im_yX10_set se_yX10_set (by decide) (by decide) rfl (hB _ (by decide)) rfl rfl dX8_putRolls_15 (by decide) (Nat.le_refl 0) (Nat.le_refl 0) (hl_r (hB _ (by decide)) (hl_i (hl_r (hB _ (by decide)) (hl_i (hl_r (m1) hl_nil))))) hs_nil ?_
  rintro _ _ _ ⟨rfl, rfl, rfl⟩ _
  refine r_8_putRolls_18 F hP hB (kC_sh _) m1 m2 (nI_pos' (by omega)) ?_
  rw [ceI_n (by omega), show (142 : Nat) + 1 = 143 from rfl]
  obtain ⟨d1, d2, -⟩ := hd.2
  have er : (up1 J 143 (putW (J 143) 6 0)) (1000 + 2 * (rkN s / 64) + 1) = J (1000 + 2 * (rkN s / 64) + 1) := up1_p (by omega)
  have ec : (fun k => (up1 J 143 (putW (J 143) 6 0)) (1000 + 2 * (rkN s / 64) + 1) (18 * (rkN s % 64) + k)) = clJ J s := by rw [er]; rfl
  refine a_callV (b := 142) (As := [.ref (1000 + 2 * (rkN s / 64) + 1), .int (nI (18 * (rkN s % 64))), .int (nI 1)]) (st := []) (ci := 10) F (c_10_add (xl X) hP I A (up1 J 143 (putW (J 143) 6 0)) hB 142 rfl (hB _ (by decide)) (hB _ (by decide)) (1000 + 2 * (rkN s / 64) + 1) (kC_sh1 _) m2 (18 * (rkN s % 64)) 1 (by omega) (by rw [nC_sh]; decide) (by rw [nC_sh]; omega) (by decide) (by rw [up1_s]; exact pw_dig) (by rw [ec]; exact d1)) ml_8_88 im_yX10_add se_yX10_add (by decide) (by decide) rfl (hB _ (by decide)) rfl rfl dX8_putRolls_34 (by decide) (Nat.le_refl 0) (Nat.le_refl 0) (hl_r (hB _ (by decide)) (hl_i (hl_r (hB _ (by decide)) (hl_i (hl_r (m1) hl_nil))))) hs_nil ?_
  rintro _ _ _ ⟨rfl, rfl, rfl⟩ _
  refine r_8_putRolls_37 F E hP hB (kC_sh _) m1 m2 ?_
  rw [ec, d2, show (142 : Nat) + 1 = 143 from rfl, up1_up1, up1_s, pw_val 6 (Nat.le_refl _)]
  refine ⟨rfl, rfl, _, rfl, fun q h _ _ => up1_p h, by rw [up1_s]; exact pw_dig, ?_⟩
  rw [up1_s, pw_val 6 (Nat.le_refl _), Nat.mul_one, Nat.zero_mod, Nat.zero_add]; exact Nat.mod_eq_of_lt (eF_b hs)

theorem r_8_putRace_0 {X : Ctx} (F : Fx X cX8_putRace RX8 11 3 0 0) {P O : Nat → Nat → Option Nat} (hP : laP P) {I A : Nat → Nat → Int32} {J : Nat → Nat → Int64} {pl : List Nat} (hB : inB pl) {x1 x2 : Int32} {q3 : Nat} (hk_q3 : kC q3 = 10) (hp_q3 : q3 ∈ pl) (hq_q3 : q3 + 1 ∈ pl)
    (e_1 : WA X (mC P O I A J) pl 0 0 2 [(0, .ref 116), (1, .int x1), (2, .int x2), (3, .ref q3)] [.long 0, .ref q3]) :
    WA X (mC P O I A J) pl 0 0 0 [(0, .ref 116), (1, .int x1), (2, .int x2), (3, .ref q3)] [] := by
  refine a_aload_n F 3 dX8_putRace_0 rfl rfl ?_
  refine a_lconst (v := 0) F dX8_putRace_1 (by decide) ?_
  exact e_1

theorem r_8_putRace_11 {X : Ctx} (F : Fx X cX8_putRace RX8 11 3 0 0) {Φ : Option Value → HS → List Nat → Prop} (E : Ex X none 0 0 Φ) {P O : Nat → Nat → Option Nat} (hP : laP P) {I A : Nat → Nat → Int32} {J : Nat → Nat → Int64} {pl : List Nat} (hB : inB pl) {x1 x2 x6 : Int32} {y4 : Int64} {q3 : Nat} (hk_q3 : kC q3 = 10) (hp_q3 : q3 ∈ pl) (hq_q3 : q3 + 1 ∈ pl)
    (e_1 : (12 < x6) → Φ none (mC P O I A J) pl)
    (e_2 : (¬ (12 < x6)) → WA X (mC P O I A J) pl 0 0 22 [(0, .ref 116), (1, .int x1), (2, .int x2), (3, .ref q3), (4, .long y4), (6, .int x6)] [.int x6, .int x1, .ref 116]) :
    WA X (mC P O I A J) pl 0 0 11 [(0, .ref 116), (1, .int x1), (2, .int x2), (3, .ref q3), (4, .long y4), (6, .int x6)] [] := by
  refine a_iload F 5 dX8_putRace_11 rfl ?_
  refine a_bipush (v := 12) F dX8_putRace_13 (by decide) ?_
  refine a_icmp_gt (tgt := 113) F dX8_putRace_15 (by decide) (fun (c_1 : 12 < x6) => ?_) (fun (c_1 : ¬ (12 < x6)) => ?_)
  · exact a_vret F E dX8_putRace_113 (Nat.le_refl 0) (Nat.le_refl 0) (e_1 c_1)
  · refine a_aload_n F 0 dX8_putRace_18 rfl rfl ?_
    refine a_iload_n F 1 dX8_putRace_19 rfl rfl ?_
    refine a_iload F 5 dX8_putRace_20 rfl ?_
    exact e_2 c_1

theorem r_8_putRace_5 {X : Ctx} (F : Fx X cX8_putRace RX8 11 3 0 0) {P O : Nat → Nat → Option Nat} (hP : laP P) {I A : Nat → Nat → Int32} {J : Nat → Nat → Int64} {pl : List Nat} (hB : inB pl) {x1 x2 : Int32}
    (e_1 : WA X (mC P O I A J) pl 0 0 11 [(0, .ref 116), (1, .int x1), (2, .int x2), (3, .ref 142), (4, .long 0), (6, .int 1)] []) :
    WA X (mC P O I A J) pl 0 0 5 [(0, .ref 116), (1, .int x1), (2, .int x2), (3, .ref 142)] [] := by
  refine a_lconst (v := 0) F dX8_putRace_5 (by decide) ?_
  refine a_lstore F dX8_putRace_6 (by decide) rfl ?_
  refine a_iconst (v := 1) F dX8_putRace_8 (by decide) ?_
  refine a_istore F dX8_putRace_9 (by decide) rfl ?_
  refine a_sub [2, 3, 4, 5, 1, 0] rfl ?_
  exact e_1

theorem r_8_putRace_25 {X : Ctx} (F : Fx X cX8_putRace RX8 11 3 0 0) {P O : Nat → Nat → Option Nat} (hP : laP P) {I A : Nat → Nat → Int32} {J : Nat → Nat → Int64} {pl : List Nat} (hB : inB pl) {x1 x2 x6 : Int32} {y4 y8 : Int64}
    (o_1 : vp_in (12 - x6) 13)
    (e_2 : WA X (mC P O I A J) pl 0 0 44 [(7, .long (y8 * (J 119 (12 - x6).toNatClampNeg))), (0, .ref 116), (1, .int x1), (2, .int x2), (3, .ref 142), (4, .long y4), (6, .int x6)] [.int (x6 - 1), .int x2, .ref 116]) :
    WA X (mC P O I A J) pl 0 0 25 [(0, .ref 116), (1, .int x1), (2, .int x2), (3, .ref 142), (4, .long y4), (6, .int x6)] [.long y8] := by
  refine a_aload_n F 0 dX8_putRace_25 rfl rfl ?_
  refine a_getr (b := 119) F fl_8_21 rfl (hB _ (by decide)) rfl ((hP 116 2 (by decide)).trans rfl) dX8_putRace_26 ?_
  refine a_bipush (v := 12) F dX8_putRace_29 (by decide) ?_
  refine a_iload F 5 dX8_putRace_31 rfl ?_
  refine a_isub F dX8_putRace_33 ?_
  refine a_lald F (hB _ (by decide)) rfl (o_1) dX8_putRace_34 ?_
  refine a_lmul F dX8_putRace_35 ?_
  refine a_lstore F dX8_putRace_36 (by decide) rfl ?_
  refine a_aload_n F 1 dX8_putRace_38 rfl rfl ?_
  refine a_iload_n F 3 dX8_putRace_39 rfl rfl ?_
  refine a_iload F 6 dX8_putRace_40 rfl ?_
  refine a_iconst (v := 1) F dX8_putRace_42 (by decide) ?_
  refine a_isub F dX8_putRace_43 ?_
  exact e_2

theorem r_8_putRace_47 {X : Ctx} (F : Fx X cX8_putRace RX8 11 3 0 0) {P O : Nat → Nat → Option Nat} (hP : laP P) {I A : Nat → Nat → Int32} {J : Nat → Nat → Int64} {pl : List Nat} (hB : inB pl) {x1 x2 x6 : Int32} {y4 y7 y8 : Int64}
    (o_1 : vp_in ((12 - x6) + 1) 13)
    (e_2 : WA X (mC P O I A J) pl 0 0 71 [(9, .long (y8 * (J 119 ((12 - x6) + 1).toNatClampNeg))), (0, .ref 116), (1, .int x1), (2, .int x2), (3, .ref 142), (4, .long y4), (6, .int x6), (7, .long y7)] [.long (y7 - y4), .ref 146]) :
    WA X (mC P O I A J) pl 0 0 47 [(0, .ref 116), (1, .int x1), (2, .int x2), (3, .ref 142), (4, .long y4), (6, .int x6), (7, .long y7)] [.long y8] := by
  refine a_aload_n F 0 dX8_putRace_47 rfl rfl ?_
  refine a_getr (b := 119) F fl_8_21 rfl (hB _ (by decide)) rfl ((hP 116 2 (by decide)).trans rfl) dX8_putRace_48 ?_
  refine a_bipush (v := 12) F dX8_putRace_51 (by decide) ?_
  refine a_iload F 5 dX8_putRace_53 rfl ?_
  refine a_isub F dX8_putRace_55 ?_
  refine a_iconst (v := 1) F dX8_putRace_56 (by decide) ?_
  refine a_iadd F dX8_putRace_57 ?_
  refine a_lald F (hB _ (by decide)) rfl (o_1) dX8_putRace_58 ?_
  refine a_lmul F dX8_putRace_59 ?_
  refine a_lstore F dX8_putRace_60 (by decide) rfl ?_
  refine a_aload_n F 1 dX8_putRace_62 rfl rfl ?_
  refine a_getr (b := 146) F fl_8_35 rfl (hB _ (by decide)) rfl ((hP 116 5 (by decide)).trans rfl) dX8_putRace_63 ?_
  refine a_lload F 7 dX8_putRace_66 rfl ?_
  refine a_lload F 5 dX8_putRace_68 rfl ?_
  refine a_lsub F dX8_putRace_70 ?_
  exact e_2

theorem r_8_putRace_74 {X : Ctx} (F : Fx X cX8_putRace RX8 11 3 0 0) {P O : Nat → Nat → Option Nat} (hP : laP P) {I A : Nat → Nat → Int32} {J : Nat → Nat → Int64} {pl : List Nat} (hB : inB pl) {x1 x2 x6 : Int32} {y4 y7 y9 : Int64}
    (o_1 : vp_in 12 13)
    (e_2 : WA X (mC P O I A J) pl 0 0 88 [(0, .ref 116), (1, .int x1), (2, .int x2), (3, .ref 142), (4, .long y4), (6, .int x6), (7, .long y7), (9, .long y9)] [.long ((J 119 12) - y9), .ref 148]) :
    WA X (mC P O I A J) pl 0 0 74 [(0, .ref 116), (1, .int x1), (2, .int x2), (3, .ref 142), (4, .long y4), (6, .int x6), (7, .long y7), (9, .long y9)] [] := by
  refine a_aload_n F 0 dX8_putRace_74 rfl rfl ?_
  refine a_getr (b := 148) F fl_8_38 rfl (hB _ (by decide)) rfl ((hP 116 6 (by decide)).trans rfl) dX8_putRace_75 ?_
  refine a_aload_n F 0 dX8_putRace_78 rfl rfl ?_
  refine a_getr (b := 119) F fl_8_21 rfl (hB _ (by decide)) rfl ((hP 116 2 (by decide)).trans rfl) dX8_putRace_79 ?_
  refine a_bipush (v := 12) F dX8_putRace_82 (by decide) ?_
  refine a_lald F (hB _ (by decide)) rfl (o_1) dX8_putRace_84 ?_
  refine a_lload F 7 dX8_putRace_85 rfl ?_
  refine a_lsub F dX8_putRace_87 ?_
  exact e_2

theorem r_8_putRace_91 {X : Ctx} (F : Fx X cX8_putRace RX8 11 3 0 0) {P O : Nat → Nat → Option Nat} (hP : laP P) {I A : Nat → Nat → Int32} {J : Nat → Nat → Int64} {pl : List Nat} (hB : inB pl) {x1 x2 x6 : Int32} {y4 y7 y9 : Int64}
    (e_1 : WA X (mC P O I A J) pl 0 0 100 [(0, .ref 116), (1, .int x1), (2, .int x2), (3, .ref 142), (4, .long y4), (6, .int x6), (7, .long y7), (9, .long y9)] [.ref 148, .ref 146, .ref 142]) :
    WA X (mC P O I A J) pl 0 0 91 [(0, .ref 116), (1, .int x1), (2, .int x2), (3, .ref 142), (4, .long y4), (6, .int x6), (7, .long y7), (9, .long y9)] [] := by
  refine a_aload_n F 3 dX8_putRace_91 rfl rfl ?_
  refine a_aload_n F 0 dX8_putRace_92 rfl rfl ?_
  refine a_getr (b := 146) F fl_8_35 rfl (hB _ (by decide)) rfl ((hP 116 5 (by decide)).trans rfl) dX8_putRace_93 ?_
  refine a_aload_n F 0 dX8_putRace_96 rfl rfl ?_
  refine a_getr (b := 148) F fl_8_38 rfl (hB _ (by decide)) rfl ((hP 116 6 (by decide)).trans rfl) dX8_putRace_97 ?_
  exact e_1

theorem r_8_putRace_103 {X : Ctx} (F : Fx X cX8_putRace RX8 11 3 0 0) {P O : Nat → Nat → Option Nat} (hP : laP P) {I A : Nat → Nat → Int32} {J : Nat → Nat → Int64} {pl : List Nat} (hB : inB pl) {x1 x2 x6 : Int32} {y4 y7 y9 : Int64}
    (e_1 : WA X (mC P O I A J) pl 0 0 11 [(0, .ref 116), (1, .int x1), (2, .int x2), (3, .ref 142), (4, .long y7), (6, .int (x6 + 1))] []) :
    WA X (mC P O I A J) pl 0 0 103 [(0, .ref 116), (1, .int x1), (2, .int x2), (3, .ref 142), (4, .long y4), (6, .int x6), (7, .long y7), (9, .long y9)] [] := by
  refine a_lload F 6 dX8_putRace_103 rfl ?_
  refine a_lstore F dX8_putRace_105 (by decide) rfl ?_
  refine a_iinc (v := x6 + 1) F 5 dX8_putRace_107 rfl rfl (by decide) rfl ?_
  refine a_goto (tgt := 11) F dX8_putRace_110 (by decide) ?_
  refine a_sub [2, 3, 4, 5, 1, 0] rfl ?_
  exact e_1

set_option maxRecDepth 100000 in
theorem c_8_putRace (l : Launch) {P O : Nat → Nat → Option Nat} (hP : laP P) (I A : Nat → Nat → Int32) (J : Nat → Nat → Int64) {pl : List Nat} (hB : inB pl) (x y : Nat) (hO : shO O pl) (hx : stnd x) (hy : stnd y) (ht : rkT (A 118)) (hT : pwT J) (hdx : dnC O J x) (hdy : dnC O J y) : Con l 3 yX8_putRace cX8_putRace 11 none [.ref 116, .int (nI x), .int (nI y), .ref 142] (mC P O I A J) pl 0 0 (nbQ P O I A J pl (raC x y)) := by
  refine Con.of (by decide) (Nat.le_of_ble_eq_true rfl) (fun X hX9 hn9 F E => ?_)
  refine r_8_putRace_0 F hP hB (q3 := 142) rfl (hB _ (by decide)) (hB _ (by decide)) ?_
  refine a_callV (b := 142) (As := [.long (lN 0)]) (st := []) (ci := 10) F (c_10_set (xl X) hP I A J hB 142 rfl (hB _ (by decide)) (hB _ (by decide)) 0 (by decide)) ml_8_43 im_yX10_set se_yX10_set (by decide) (by decide) rfl (hB _ (by decide)) rfl rfl dX8_putRace_2 (by decide) (Nat.le_refl 0) (Nat.le_refl 0) (hl_r (hB _ (by decide)) (hl_i (hl_i (hl_r (hB _ (by decide)) hl_nil)))) hs_nil ?_
  rintro _ _ _ ⟨rfl, rfl, rfl⟩ _
  refine r_8_putRace_5 F hP hB ?_
  rw [show (142 : Nat) + 1 = 143 from rfl]
  have p63 := p12_b
  have lp : ∀ f n (J1 : Nat → Nat → Int64), n + f = 13 → 1 ≤ n → (∀ q, q ≠ 143 → q ≠ 147 → q ≠ 149 → J1 q = J q) → digW (J1 143) 6 → valW (J1 143) 6 = sumB (fun n => (byN x n - byN x (n - 1)) * (36 ^ 12 - rvN y n)) 1 (n - 1) % 2 ^ 186 → WA X (mC P O I A J1) pl 0 0 11 [(0, .ref 116), (1, .int (nI x)), (2, .int (nI y)), (3, .ref 142), (4, .long (lN (byN x (n - 1)))), (6, .int (nI n))] [] := by
    intro f
    induction f with
    | zero =>
      intro n J1 hn n1 j1 j2 j3
      obtain rfl : n = 13 := by omega
      refine r_8_putRace_11 F E hP hB (q3 := 142) rfl (hB _ (by decide)) (hB _ (by decide)) (fun _ => ?_) (fun z => absurd (by decide) z)
      refine ⟨rfl, rfl, J1, rfl, j1, j2, ?_⟩
      rw [j3]; exact Nat.mod_eq_of_lt (raC_b hx)
    | succ f ih =>
      intro n J1 hn n1 j1 j2 j3
      have n12 : n ≤ 12 := by omega
      have nlt : ¬ (12 : Int32) < nI n := fun z => by have := (nI_gtn 12 (by omega) (by omega)).mp z; omega
      have dj : ∀ q, 1000 ≤ q → J1 q = J q := fun q h => j1 q (by omega) (by omega) (by omega)
      have e12 : (12 : Int32) - nI n = nI (12 - n) := pk_sub (a := 12) (b := n) n12
      have e13 : nI (12 - n) + 1 = nI (13 - n) := by rw [nI_1]; congr 1; omega
      have en1 : nI n - 1 = nI (n - 1) := pk_sub (b := 1) n1
      have j119 : J1 119 = J 119 := j1 119 (by decide) (by decide) (by decide)
      refine r_8_putRace_11 F E hP hB (q3 := 142) rfl (hB _ (by decide)) (hB _ (by decide)) (fun z => absurd z nlt) (fun _ => ?_)
      refine a_callV (b := 116) (As := [.int (nI x), .int (nI n)]) (st := []) (ci := 8) F (c_8_chances (xl X) hP I A J1 hB x n hO hx n12 ht) ml_8_70 im_yX8_chances se_yX8_chances (by decide) (by decide) rfl (hB _ (by decide)) rfl rfl dX8_putRace_22 (by decide) (Nat.le_refl 0) (Nat.le_refl 0) (hl_r (hB _ (by decide)) (hl_i (hl_i (hl_r (hB _ (by decide)) (hl_l (hl_i hl_nil)))))) hs_nil ?_
      rintro _ _ _ ⟨rfl, rfl, rfl⟩ _
      refine r_8_putRace_25 F hP hB (by rw [e12]; exact vp_in_nI (by omega) (by omega)) ?_
      rw [e12, nI_clamp (by omega), j119, hT.1 (12 - n) (by omega), dn_ch (dn_cg dj hdx) n12, lN_t, en1]
      have eb : wN n x * 36 ^ (12 - n) = byN x n := by unfold byN; rw [if_neg (by omega)]
      rw [eb]
      refine a_callV (b := 116) (As := [.int (nI y), .int (nI (n - 1))]) (st := []) (ci := 8) F (c_8_chances (xl X) hP I A J1 hB y (n - 1) hO hy (by omega) ht) ml_8_70 im_yX8_chances se_yX8_chances (by decide) (by decide) rfl (hB _ (by decide)) rfl rfl dX8_putRace_44 (by decide) (Nat.le_refl 0) (Nat.le_refl 0) (hl_l (hl_r (hB _ (by decide)) (hl_i (hl_i (hl_r (hB _ (by decide)) (hl_l (hl_i hl_nil))))))) hs_nil ?_
      rintro _ _ _ ⟨rfl, rfl, rfl⟩ _
      refine a_sub [1, 2, 3, 4, 5, 6, 0] rfl ?_
      refine r_8_putRace_47 F hP hB (by rw [e12, e13]; exact vp_in_nI (by omega) (by omega)) ?_
      rw [e12, e13, nI_clamp (by omega), j119, hT.1 (13 - n) (by omega), dn_ch (dn_cg dj hdy) (by omega), lN_t, show wN (n - 1) y * 36 ^ (13 - n) = rvN y n from rfl, lN_m (by_up hx n1 n12)]
      have b1 := by_le hx n12
      have b2 := rv_le hy n1 n12
      refine a_callV (b := 146) (As := [.long (lN (byN x n - byN x (n - 1)))]) (st := []) (ci := 10) F (c_10_set (xl X) hP I A J1 hB 146 rfl (hB _ (by decide)) (hB _ (by decide)) (byN x n - byN x (n - 1)) (by omega)) ml_8_43 im_yX10_set se_yX10_set (by decide) (by decide) rfl (hB _ (by decide)) rfl rfl dX8_putRace_71 (by decide) (Nat.le_refl 0) (Nat.le_refl 0) (hl_l (hl_r (hB _ (by decide)) (hl_i (hl_i (hl_r (hB _ (by decide)) (hl_l (hl_i (hl_l hl_nil)))))))) hs_nil ?_
      rintro _ _ _ ⟨rfl, rfl, rfl⟩ _
      rw [show (146 : Nat) + 1 = 147 from rfl]
      refine a_sub [1, 2, 3, 4, 5, 6, 7, 0] rfl ?_
      refine r_8_putRace_74 F hP hB (vp_in_nI (n := 12) (by omega) (by omega)) ?_
      rw [up1_p (show (119 : Nat) ≠ 147 by decide), j119, hT.1 12 (by omega), lN_m b2]
      refine a_callV (b := 148) (As := [.long (lN (36 ^ 12 - rvN y n))]) (st := []) (ci := 10) F (c_10_set (xl X) hP I A (up1 J1 147 (putW (J1 147) 6 (byN x n - byN x (n - 1)))) hB 148 rfl (hB _ (by decide)) (hB _ (by decide)) (36 ^ 12 - rvN y n) (by omega)) ml_8_43 im_yX10_set se_yX10_set (by decide) (by decide) rfl (hB _ (by decide)) rfl rfl dX8_putRace_88 (by decide) (Nat.le_refl 0) (Nat.le_refl 0) (hl_r (hB _ (by decide)) (hl_i (hl_i (hl_r (hB _ (by decide)) (hl_l (hl_i (hl_l (hl_l hl_nil)))))))) hs_nil ?_
      rintro _ _ _ ⟨rfl, rfl, rfl⟩ _
      rw [show (148 : Nat) + 1 = 149 from rfl]
      obtain ⟨J2, hJ2⟩ : ∃ J2, up1 (up1 J1 147 (putW (J1 147) 6 (byN x n - byN x (n - 1)))) 149 (putW ((up1 J1 147 (putW (J1 147) 6 (byN x n - byN x (n - 1)))) 149) 6 (36 ^ 12 - rvN y n)) = J2 := ⟨_, rfl⟩
      have k1 : ∀ q, q ≠ 147 → q ≠ 149 → J2 q = J1 q := fun q h1 h2 => by rw [← hJ2, up1_p h2, up1_p h1]
      have k2 : digW (J2 147) 6 ∧ valW (J2 147) 6 = byN x n - byN x (n - 1) := by
        rw [← hJ2, up1_p (show (147 : Nat) ≠ 149 by decide), up1_s]
        exact ⟨pw_dig, by rw [pw_val 6 (Nat.le_refl _)]; exact Nat.mod_eq_of_lt (Nat.lt_of_lt_of_le (Nat.lt_of_le_of_lt (Nat.le_trans (Nat.sub_le _ _) b1) p63) (by decide))⟩
      have k3 : digW (J2 149) 6 ∧ valW (J2 149) 6 = 36 ^ 12 - rvN y n := by
        rw [← hJ2, up1_s]
        exact ⟨pw_dig, by rw [pw_val 6 (Nat.le_refl _)]; exact Nat.mod_eq_of_lt (Nat.lt_of_lt_of_le (Nat.lt_of_le_of_lt (Nat.sub_le _ _) p63) (by decide))⟩
      rw [hJ2]
      clear hJ2
      have k4 : J2 143 = J1 143 := k1 143 (by decide) (by decide)
      refine r_8_putRace_91 F hP hB ?_
      refine a_callV (b := 142) (As := [.ref 146, .ref 148]) (st := []) (ci := 10) F (c_10_addProduct (xl X) hP I A J2 hB 142 rfl (hB _ (by decide)) (hB _ (by decide)) 146 rfl (hB _ (by decide)) (hB _ (by decide)) 148 rfl (hB _ (by decide)) (hB _ (by decide)) (by decide) (by decide) k2.1 k3.1 (by rw [k4]; exact j2)) ml_8_154 im_yX10_addProduct se_yX10_addProduct (by decide) (by decide) rfl (hB _ (by decide)) rfl rfl dX8_putRace_100 (by decide) (Nat.le_refl 0) (Nat.le_refl 0) (hl_r (hB _ (by decide)) (hl_i (hl_i (hl_r (hB _ (by decide)) (hl_l (hl_i (hl_l (hl_l hl_nil)))))))) hs_nil ?_
      rintro _ _ _ ⟨rfl, rfl, rfl⟩ _
      refine r_8_putRace_103 F hP hB ?_
      rw [show (142 : Nat) + 1 = 143 from rfl, show (146 : Nat) + 1 = 147 from rfl, show (148 : Nat) + 1 = 149 from rfl, k2.2, k3.2, nI_1]
      refine ih (n + 1) _ (by omega) (by omega) (fun q h1 h2 h3 => by rw [up1_p h1, k1 q h2 h3]; exact j1 q h1 h2 h3) (by rw [up1_s]; exact pw_dig) ?_
      rw [up1_s, pw_val 6 (Nat.le_refl _), k4, j3, Nat.mod_add_mod, show n + 1 - 1 = (n - 1) + 1 by omega]
      show _ = (sumB _ 1 (n - 1) + (byN x (1 + (n - 1)) - byN x (1 + (n - 1) - 1)) * (36 ^ 12 - rvN y (1 + (n - 1)))) % 2 ^ 186
      rw [show 1 + (n - 1) = n by omega]
  refine lp 12 1 _ rfl (Nat.le_refl _) (fun q h _ _ => up1_p h) (by rw [up1_s]; exact pw_dig) ?_
  rw [up1_s, pw_val 6 (Nat.le_refl _)]; rfl
