theorem kC_sh1 (k : Nat) : kC (1000 + 2 * k + 1) = 14 := by rw [kC_big (by omega), if_neg (by omega)]
theorem lN_p (a b : Nat) : lN a + lN b = lN (a + b) := (Int64.ofNat_add a b).symm
theorem lN_t (a b : Nat) : lN a * lN b = lN (a * b) := (Int64.ofNat_mul a b).symm
def ctQ (P O : Nat → Nat → Option Nat) (I A : Nat → Nat → Int32) (J : Nat → Nat → Int64) (pl : List Nat) (v : Nat) (f : Nat → Nat) : Option Value → HS → List Nat → Prop := fun r σ' pl' => r = none ∧ pl = pl' ∧ ∃ J', σ' = mC P O I A J' ∧ (∀ q, q ≠ 147 → q ≠ 124 → J' q = J q) ∧ J' 147 = putW (J 147) 6 (valW (J 147) 6 + v) ∧ ∀ k, k < 12 → J' 124 k = J 124 k + lN (f k)

theorem r_8_count_0 {X : Ctx} (F : Fx X cX8_count RX8 7 2 0 0) {P O : Nat → Nat → Option Nat} (hP : laP P) {I A : Nat → Nat → Int32} {J : Nat → Nat → Int64} {pl : List Nat} (hB : inB pl) {x1 x2 : Int32}
    (o_1 : stdI x1)
    (o_2 : rkT (A 118))
    (e_3 : WA X (mC P O I A J) pl 0 0 8 [(3, .int (rkI x1)), (0, .ref 116), (1, .int x1), (2, .int x2)] [.int (rkI x1), .ref 116]) :
    WA X (mC P O I A J) pl 0 0 0 [(0, .ref 116), (1, .int x1), (2, .int x2)] [] := by
  refine a_aload_n F 0 dX8_count_0 rfl rfl ?_
  refine a_iload_n F 1 dX8_count_1 rfl rfl ?_
  refine a_callV (b := 116) (As := [.int x1]) (st := []) (ci := 8) F (c_8_rankOfI (xl X) hP I A J hB x1 (o_1) (o_2)) ml_8_74 im_yX8_rankOf se_yX8_rankOf (by decide) (by decide) rfl (hB _ (by decide)) rfl rfl dX8_count_2 (by decide) (Nat.le_refl 0) (Nat.le_refl 0) (hl_r (hB _ (by decide)) (hl_i (hl_i hl_nil))) hs_nil ?_
  rintro _ _ _ ⟨rfl, rfl, rfl⟩ _
  show WA X (mC P O I A J) pl 0 0 5 [(0, .ref 116), (1, .int x1), (2, .int x2)] [.int (rkI x1)]
  refine a_istore_n F dX8_count_5 rfl (by decide) rfl ?_
  refine a_aload_n F 1 dX8_count_6 rfl rfl ?_
  refine a_iload_n F 0 dX8_count_7 rfl rfl ?_
  exact e_3

theorem r_8_count_62 {X : Ctx} (F : Fx X cX8_count RX8 7 2 0 0) {Φ : Option Value → HS → List Nat → Prop} (E : Ex X none 0 0 Φ) {P O : Nat → Nat → Option Nat} (hP : laP P) {I A : Nat → Nat → Int32} {J : Nat → Nat → Int64} {pl : List Nat} (hB : inB pl) {x1 x2 x3 x5 x6 : Int32} {q9 : Nat} (hk_q9 : kC q9 = 7) (hp_q9 : q9 ∈ pl) (hq_q9 : q9 + 1 ∈ pl)
    (e_1 : (12 ≤ x6) → Φ none (mC P O I A J) pl)
    (o_2 : (¬ (12 ≤ x6)) → vp_in x6 12)
    (o_3 : (¬ (12 ≤ x6)) → vp_in (((x5 + 6) + x6) - 1) 1152)
    (o_4 : (¬ (12 ≤ x6)) → vp_in x6 12)
    (e_5 : (¬ (12 ≤ x6)) → WA X (mC P O I A (up1 J 124 (vp_updL (J 124) x6.toNatClampNeg ((J 124 x6.toNatClampNeg) + (((x2 : Int32).toInt64) * (J (q9 + 1) (((x5 + 6) + x6) - 1).toNatClampNeg)))))) pl 0 0 62 [(0, .ref 116), (1, .int x1), (2, .int x2), (3, .int x3), (4, .ref q9), (5, .int x5), (6, .int (x6 + 1))] []) :
    WA X (mC P O I A J) pl 0 0 62 [(0, .ref 116), (1, .int x1), (2, .int x2), (3, .int x3), (4, .ref q9), (5, .int x5), (6, .int x6)] [] := by
  refine a_iload F 6 dX8_count_62 rfl ?_
  refine a_bipush (v := 12) F dX8_count_64 (by decide) ?_
  refine a_icmp_ge (tgt := 104) F dX8_count_66 (by decide) (fun (c_1 : 12 ≤ x6) => ?_) (fun (c_1 : ¬ (12 ≤ x6)) => ?_)
  · exact a_vret F E dX8_count_104 (Nat.le_refl 0) (Nat.le_refl 0) (e_1 c_1)
  · refine a_aload_n F 0 dX8_count_69 rfl rfl ?_
    refine a_getr (b := 124) F fl_8_25 rfl (hB _ (by decide)) rfl ((hP 116 3 (by decide)).trans rfl) dX8_count_70 ?_
    refine a_iload F 6 dX8_count_73 rfl ?_
    refine a_dup2 F dX8_count_75 rfl rfl ?_
    refine a_lald F (hB _ (by decide)) rfl (o_2 c_1) dX8_count_76 ?_
    refine a_iload_n F 2 dX8_count_77 rfl rfl ?_
    refine a_i2l F dX8_count_78 ?_
    refine a_aload F 4 dX8_count_79 rfl ?_
    refine a_getr (b := (q9 + 1)) F fl_8_82 rfl (hp_q9) hk_q9 (laP_sh hP hk_q9) dX8_count_81 ?_
    refine a_iload F 5 dX8_count_84 rfl ?_
    refine a_bipush (v := 6) F dX8_count_86 (by decide) ?_
    refine a_iadd F dX8_count_88 ?_
    refine a_iload F 6 dX8_count_89 rfl ?_
    refine a_iadd F dX8_count_91 ?_
    refine a_iconst (v := 1) F dX8_count_92 (by decide) ?_
    refine a_isub F dX8_count_93 ?_
    refine a_lald F (hq_q9) (k_sh hk_q9).1 (show vp_in _ (nC (q9 + 1)) from (k_sh hk_q9).2 ▸ o_3 c_1) dX8_count_94 ?_
    refine a_lmul F dX8_count_95 ?_
    refine a_ladd F dX8_count_96 ?_
    refine a_last F (hB _ (by decide)) rfl (o_4 c_1) dX8_count_97 ?_
    refine a_iinc (v := x6 + 1) F 6 dX8_count_98 rfl rfl (by decide) rfl ?_
    refine a_goto (tgt := 62) F dX8_count_101 (by decide) ?_
    refine a_sub [1, 2, 3, 4, 5, 6, 0] rfl ?_
    exact e_5 c_1

theorem r_8_count_11 {X : Ctx} (F : Fx X cX8_count RX8 7 2 0 0) {P O : Nat → Nat → Option Nat} (hP : laP P) {I A : Nat → Nat → Int32} {J : Nat → Nat → Int64} {pl : List Nat} (hB : inB pl) {x1 x2 x3 : Int32} {q9 : Nat} (hk_q9 : kC q9 = 7) (hp_q9 : q9 ∈ pl) (hq_q9 : q9 + 1 ∈ pl)
    (o_1 : 0 ≤ x3)
    (e_2 : WA X (mC P O I A J) pl 0 0 37 [(5, .int (ceI x3)), (4, .ref q9), (0, .ref 116), (1, .int x1), (2, .int x2), (3, .int x3)] [.int x2, .int (ceI x3), .ref (q9 + 1), .ref 146]) :
    WA X (mC P O I A J) pl 0 0 11 [(0, .ref 116), (1, .int x1), (2, .int x2), (3, .int x3)] [.ref q9] := by
  refine a_astore F dX8_count_11 (by decide) rfl ?_
  refine a_aload F 0 dX8_count_13 rfl ?_
  refine a_ifnonnull (tgt := 19) F dX8_count_15 (by decide) ?_
  refine a_iload_n F 4 dX8_count_19 rfl rfl ?_
  refine a_callS (As := [.int x3]) (st := []) F (c_8_cellOfI (xl X) hP I A J hB x3 (o_1)) ml_8_85 sm_yX8_cellOf (by decide) rfl dX8_count_20 (by decide) (Nat.le_refl 0) (Nat.le_refl 0) (hl_r (hp_q9) (hl_r (hB _ (by decide)) (hl_i (hl_i (hl_i hl_nil))))) hs_nil ?_
  rintro _ _ _ ⟨rfl, rfl, rfl⟩ _
  show WA X (mC P O I A J) pl 0 0 23 [(4, .ref q9), (0, .ref 116), (1, .int x1), (2, .int x2), (3, .int x3)] [.int (ceI x3)]
  refine a_istore F dX8_count_23 (by decide) rfl ?_
  refine a_aload_n F 2 dX8_count_25 rfl rfl ?_
  refine a_getr (b := 146) F fl_8_35 rfl (hB _ (by decide)) rfl ((hP 116 5 (by decide)).trans rfl) dX8_count_26 ?_
  refine a_aload F 1 dX8_count_29 rfl ?_
  refine a_getr (b := (q9 + 1)) F fl_8_82 rfl (hp_q9) hk_q9 (laP_sh hP hk_q9) dX8_count_31 ?_
  refine a_iload F 0 dX8_count_34 rfl ?_
  refine a_iload_n F 4 dX8_count_36 rfl rfl ?_
  exact e_2

theorem r_8_count_40 {X : Ctx} (F : Fx X cX8_count RX8 7 2 0 0) {P O : Nat → Nat → Option Nat} (hP : laP P) {I A : Nat → Nat → Int32} {J : Nat → Nat → Int64} {pl : List Nat} (hB : inB pl) {x1 x2 x3 x5 : Int32} {q9 : Nat} (hk_q9 : kC q9 = 7) (hp_q9 : q9 ∈ pl) (hq_q9 : q9 + 1 ∈ pl)
    (o_1 : vp_in 0 12)
    (o_2 : (¬ x1 = 0) → vp_in 0 12)
    (e_3 : (¬ x1 = 0) → WA X (mC P O I A (up1 J 124 (vp_updL (J 124) 0 ((J 124 0) + 0)))) pl 0 0 62 [(0, .ref 116), (1, .int x1), (2, .int x2), (3, .int x3), (4, .ref q9), (5, .int x5), (6, .int 1)] [])
    (o_4 : (x1 = 0) → vp_in 0 12)
    (e_5 : (x1 = 0) → WA X (mC P O I A (up1 J 124 (vp_updL (J 124) 0 ((J 124 0) + ((x2 : Int32).toInt64))))) pl 0 0 62 [(0, .ref 116), (1, .int x1), (2, .int x2), (3, .int x3), (4, .ref q9), (5, .int x5), (6, .int 1)] []) :
    WA X (mC P O I A J) pl 0 0 40 [(0, .ref 116), (1, .int x1), (2, .int x2), (3, .int x3), (4, .ref q9), (5, .int x5)] [] := by
  refine a_aload_n F 0 dX8_count_40 rfl rfl ?_
  refine a_getr (b := 124) F fl_8_25 rfl (hB _ (by decide)) rfl ((hP 116 3 (by decide)).trans rfl) dX8_count_41 ?_
  refine a_iconst (v := 0) F dX8_count_44 (by decide) ?_
  refine a_dup2 F dX8_count_45 rfl rfl ?_
  refine a_lald F (hB _ (by decide)) rfl (o_1) dX8_count_46 ?_
  refine a_iload_n F 1 dX8_count_47 rfl rfl ?_
  refine a_if_ne (tgt := 56) F dX8_count_48 (by decide) (fun (c_2 : ¬ x1 = 0) => ?_) (fun (c_2 : x1 = 0) => ?_)
  · refine a_lconst (v := 0) F dX8_count_56 (by decide) ?_
    refine a_ladd F dX8_count_57 ?_
    refine a_last F (hB _ (by decide)) rfl (o_2 c_2) dX8_count_58 ?_
    refine a_iconst (v := 1) F dX8_count_59 (by decide) ?_
    refine a_istore F dX8_count_60 (by decide) rfl ?_
    refine a_sub [1, 2, 3, 4, 5, 6, 0] rfl ?_
    exact e_3 c_2
  · refine a_iload_n F 2 dX8_count_51 rfl rfl ?_
    refine a_i2l F dX8_count_52 ?_
    refine a_goto (tgt := 57) F dX8_count_53 (by decide) ?_
    refine a_ladd F dX8_count_57 ?_
    refine a_last F (hB _ (by decide)) rfl (o_4 c_2) dX8_count_58 ?_
    refine a_iconst (v := 1) F dX8_count_59 (by decide) ?_
    refine a_istore F dX8_count_60 (by decide) rfl ?_
    refine a_sub [1, 2, 3, 4, 5, 6, 0] rfl ?_
    exact e_5 c_2

set_option maxRecDepth 10000 in
theorem c_8_count (l : Launch) {P O : Nat → Nat → Option Nat} (hP : laP P) (I A : Nat → Nat → Int32) (J : Nat → Nat → Int64) {pl : List Nat} (hB : inB pl) (t c : Nat) (hO : shO O pl) (hs : stnd t) (hc : c ≤ 2) (ht : rkT (A 118)) (hd : dnC O J t) (h7 : digW (J 147) 6) : Con l 2 yX8_count cX8_count 7 none [.ref 116, .int (nI t), .int (nI c)] (mC P O I A J) pl 0 0 (ctQ P O I A J pl (eF 32 t * c) (fun k => c * wN k t)) := by
  refine Con.of (by decide) (Nat.le_of_ble_eq_true rfl) (fun X hX9 hn9 F E => ?_)
  have hs2 : t < 2 ^ 31 := by have := hs.1; omega
  have hb := rk_b hs
  have cs : nI t = 0 ↔ t = 0 := nI_z hs2
  have ec : (nI c).toInt64 = lN c := by rcases (show c = 0 ∨ c = 1 ∨ c = 2 by omega) with rfl | rfl | rfl <;> decide
  refine r_8_count_0 F hP hB ((std_n hs2).mpr hs) ht ?_
  rw [rkI_n hs]
  refine a_callV (b := 116) (As := [.int (nI (rkN t))]) (st := []) (ci := 8) F (c_8_shelfOf (xl X) hP I A J hB (rkN t) hO hb) ml_8_78 im_yX8_shelfOf se_yX8_shelfOf (by decide) (by decide) rfl (hB _ (by decide)) rfl rfl dX8_count_8 (by decide) (Nat.le_refl 0) (Nat.le_refl 0) (hl_i (hl_r (hB _ (by decide)) (hl_i (hl_i hl_nil)))) hs_nil ?_
  rintro _ _ _ ⟨rfl, rfl, rfl⟩ _
  obtain ⟨o1, m1, m2⟩ : O 117 (rkN t / 64) = some (1000 + 2 * (rkN t / 64)) ∧ 1000 + 2 * (rkN t / 64) ∈ pl ∧ 1000 + 2 * (rkN t / 64) + 1 ∈ pl := by
    rcases hO (rkN t / 64) (by omega) with ⟨o1, o2, o3⟩ | ⟨o1, -⟩
    · exact ⟨o1, o2, by rw [show 1000 + 2 * (rkN t / 64) + 1 = 1001 + 2 * (rkN t / 64) by omega]; exact o3⟩
    · rw [hd.1] at o1; exact nomatch o1
  rw [o1]
  refine a_sub [1, 2, 3, 0] rfl ?_
  refine r_8_count_11 F hP hB (kC_sh _) m1 m2 (nI_pos' (by omega)) ?_
  rw [ceI_n (by omega)]
  obtain ⟨d1, d2, d3⟩ := hd.2
  obtain ⟨w, hw⟩ : ∃ w, 18 * (rkN t % 64) = w := ⟨_, rfl⟩
  obtain ⟨q, hq⟩ : ∃ q, 1000 + 2 * (rkN t / 64) = q := ⟨_, rfl⟩
  have ecl : ∀ k, clJ J t k = J (q + 1) (w + k) := fun k => by unfold clJ; rw [hw, hq]
  have ecf : clJ J t = fun k => J (q + 1) (w + k) := funext ecl
  have hkq : kC q = 7 := by rw [← hq]; exact kC_sh _
  have hnq : nC (q + 1) = 1152 := by rw [← hq]; exact nC_sh _
  have hlq : kC (q + 1) = 14 := by rw [← hq]; exact kC_sh1 _
  have q1 : q + 1 ≠ 147 := by omega
  have q2 : q + 1 ≠ 124 := by omega
  have w1 : w + 18 ≤ 1152 := by omega
  rw [ecf] at d1 d2
  rw [hq] at m1 m2
  rw [hw, hq]
  refine a_callV (b := 146) (As := [.ref (q + 1), .int (nI w), .int (nI c)]) (st := []) (ci := 10) F (c_10_add (xl X) hP I A J hB 146 rfl (hB _ (by decide)) (hB _ (by decide)) (q + 1) hlq m2 w c q1 (by rw [hnq]; decide) (by rw [hnq]; omega) hc h7 d1) ml_8_88 im_yX10_add se_yX10_add (by decide) (by decide) rfl (hB _ (by decide)) rfl rfl dX8_count_37 (by decide) (Nat.le_refl 0) (Nat.le_refl 0) (hl_i (hl_r (m1) (hl_r (hB _ (by decide)) (hl_i (hl_i (hl_i hl_nil)))))) hs_nil ?_
  rintro _ _ _ ⟨rfl, rfl, rfl⟩ _
  rw [d2]
  obtain ⟨J1, hJ1⟩ : ∃ J1, up1 J (146 + 1) (putW (J (146 + 1)) 6 (valW (J (146 + 1)) 6 + eF 32 t * c)) = J1 := ⟨_, rfl⟩
  have a1 : ∀ q, q ≠ 147 → J1 q = J q := fun q h => by rw [← hJ1]; exact up1_p h
  have a2 : J1 147 = putW (J 147) 6 (valW (J 147) 6 + eF 32 t * c) := by rw [← hJ1]; exact up1_s
  rw [hJ1]
  refine a_sub [2, 3, 4, 5, 1, 0] rfl ?_
  have lp : ∀ f n (J2 : Nat → Nat → Int64), n + f = 12 → 1 ≤ n → (∀ q, q ≠ 124 → J2 q = J1 q) → (∀ k, k < 12 → J2 124 k = if k < n then J 124 k + lN (c * wN k t) else J 124 k) → WA X (mC P O I A J2) pl 0 0 62 [(0, .ref 116), (1, .int (nI t)), (2, .int (nI c)), (3, .int (nI (rkN t))), (4, .ref q), (5, .int (nI w)), (6, .int (nI n))] [] := by
    intro f
    induction f with
    | zero =>
      intro n J2 hn n1 b1 b2
      obtain rfl : n = 12 := by omega
      refine r_8_count_62 F E hP hB hkq m1 m2 (fun _ => ?_) (fun z => absurd (by decide) z) (fun z => absurd (by decide) z) (fun z => absurd (by decide) z) (fun z => absurd (by decide) z)
      refine ⟨rfl, rfl, J2, rfl, fun q h1 h2 => (b1 q h2).trans (a1 q h1), (b1 147 (by decide)).trans a2, fun k hk => ?_⟩
      rw [b2 k hk, if_pos hk]
    | succ f ih =>
      intro n J2 hn n1 b1 b2
      have nlt : ¬ (12 : Int32) ≤ nI n := fun z => by have := (nI_gen 12 (by omega) (by omega)).mp z; omega
      have vn : vp_in (nI n) 12 := vp_in_nI (by omega) (by omega)
      have ei : nI w + 6 + nI n - 1 = nI (w + (5 + n)) := by
        rw [show nI w + 6 = nI (w + 6) from nI_add _ 6, nI_add, show nI (w + 6 + n) - 1 = nI (w + 6 + n - 1) from pk_sub (b := 1) (by omega)]; congr 1; omega
      refine r_8_count_62 F E hP hB hkq m1 m2 (fun z => absurd z nlt) (fun _ => vn) (fun _ => by rw [ei]; exact vp_in_nI (by omega) (by omega)) (fun _ => vn) (fun _ => ?_)
      rw [ei, nI_clamp (by omega), nI_clamp (by omega), nI_1, ec, b1 (q + 1) q2, a1 (q + 1) q1, ← ecl, d3 n n1 (by omega), lN_t]
      refine ih (n + 1) _ (by omega) (by omega) (fun q h => (up1_p h).trans (b1 q h)) (fun k hk => ?_)
      rw [up1_s]
      by_cases e : k = n
      · subst e; rw [updL_in, b2 k hk, if_neg (by omega), if_pos (by omega)]
      · rw [updL_out e, b2 k hk]
        by_cases y : k < n
        · rw [if_pos y, if_pos (by omega)]
        · rw [if_neg y, if_neg (by omega)]
  have v0 : vp_in 0 12 := vp_in_nI (n := 0) (by omega) (by omega)
  refine r_8_count_40 F hP hB hkq m1 m2 v0 (fun _ => v0) (fun z => ?_) (fun _ => v0) (fun z => ?_)
  · refine lp 11 1 _ rfl (Nat.le_refl _) (fun q h => up1_p h) (fun k hk => ?_)
    rw [up1_s]
    by_cases e : k = 0
    · subst e; rw [updL_in, if_pos (by omega), wN_z, if_neg (fun y => z (cs.mpr y)), a1 124 (by decide)]; rfl
    · rw [updL_out e, if_neg (by omega), a1 124 (by decide)]
  · refine lp 11 1 _ rfl (Nat.le_refl _) (fun q h => up1_p h) (fun k hk => ?_)
    rw [up1_s]
    by_cases e : k = 0
    · subst e; rw [updL_in, if_pos (by omega), wN_z, if_pos (cs.mp z), a1 124 (by decide), ec, Nat.mul_one]
    · rw [updL_out e, if_neg (by omega), a1 124 (by decide)]
