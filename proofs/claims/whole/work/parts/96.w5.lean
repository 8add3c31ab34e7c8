theorem les_y {U v j : Nat} (hv : 0 < v) (h : v ^ j ∣ U) : U / v ^ j % v = 0 ↔ v ^ (j + 1) ∣ U := by
  obtain ⟨m, rfl⟩ := h
  have hp : 0 < v ^ j := Nat.pow_pos hv
  rw [Nat.mul_div_cancel_left _ hp, Nat.pow_succ]
  exact ⟨fun z => Nat.mul_dvd_mul_left _ (Nat.dvd_of_mod_eq_zero z), fun z => Nat.mod_eq_zero_of_dvd (Nat.dvd_of_mul_dvd_mul_left hp z)⟩
def rdC (P O : Nat → Nat → Option Nat) (I A : Nat → Nat → Int32) (J : Nat → Nat → Int64) (pl : List Nat) (v most U L : Nat) : Option Value → HS → List Nat → Prop := fun r σ' pl' => ∃ J' n, r = none ∧ σ' = mC P O I A J' ∧ pl = pl' ∧ (∀ p, p ≠ 141 → p ≠ 143 → J' p = J p) ∧ lessN U v most n ∧ digW (J' 143) 6 ∧ valW (J' 143) 6 = U / v ^ n ∧ digW (J' 141) 6 ∧ valW (J' 141) 6 = L * v ^ (most - n)

theorem r_4_reduce_0 {X : Ctx} (F : Fx X cX4_reduce RX4 5 2 0 0) {P O : Nat → Nat → Option Nat} (hP : laP P) {I A : Nat → Nat → Int32} {J : Nat → Nat → Int64} {pl : List Nat} (hB : inB pl) {x1 x2 : Int32}
    (e_1 : WA X (mC P O I A J) pl 0 0 2 [(0, .ref 126), (1, .int x1), (2, .int x2), (3, .int x2)] []) :
    WA X (mC P O I A J) pl 0 0 0 [(0, .ref 126), (1, .int x1), (2, .int x2)] [] := by
  refine a_iload_n F 2 dX4_reduce_0 rfl rfl ?_
  refine a_istore_n F dX4_reduce_1 rfl (by decide) rfl ?_
  refine a_sub [1, 2, 3, 0] rfl ?_
  exact e_1

theorem r_4_reduce_2 {X : Ctx} (F : Fx X cX4_reduce RX4 5 2 0 0) {P O : Nat → Nat → Option Nat} (hP : laP P) {I A : Nat → Nat → Int32} {J : Nat → Nat → Int64} {pl : List Nat} (hB : inB pl) {x1 x2 x3 : Int32}
    (e_1 : (x3 ≤ 0) → WA X (mC P O I A J) pl 0 0 31 [(0, .ref 126), (1, .int x1), (2, .int x2), (3, .int x3)] [])
    (o_2 : (¬ (x3 ≤ 0)) → digW (J 143) 6)
    (o_3 : (¬ (x3 ≤ 0)) → 1 ≤ x1 ∧ x1 ≤ 64)
    (e_4 : (¬ (x3 ≤ 0)) → (¬ (nI (valW (J 143) 6 % x1.toNatClampNeg)) = 0) → WA X (mC P O I A J) pl 0 0 31 [(0, .ref 126), (1, .int x1), (2, .int x2), (3, .int x3)] [])
    (o_5 : (¬ (x3 ≤ 0)) → ((nI (valW (J 143) 6 % x1.toNatClampNeg)) = 0) → digW (J 143) 6)
    (o_6 : (¬ (x3 ≤ 0)) → ((nI (valW (J 143) 6 % x1.toNatClampNeg)) = 0) → 1 ≤ x1 ∧ x1 ≤ 64)
    (e_7 : (¬ (x3 ≤ 0)) → ((nI (valW (J 143) 6 % x1.toNatClampNeg)) = 0) → WA X (mC P O I A (up1 J 143 (putW (J 143) 6 (valW (J 143) 6 / x1.toNatClampNeg)))) pl 0 0 2 [(0, .ref 126), (1, .int x1), (2, .int x2), (3, .int (x3 + (-1)))] []) :
    WA X (mC P O I A J) pl 0 0 2 [(0, .ref 126), (1, .int x1), (2, .int x2), (3, .int x3)] [] := by
  refine a_iload_n F 3 dX4_reduce_2 rfl rfl ?_
  refine a_if_le (tgt := 31) F dX4_reduce_3 (by decide) (fun (c_1 : x3 ≤ 0) => ?_) (fun (c_1 : ¬ (x3 ≤ 0)) => ?_)
  · exact e_1 c_1
  · refine a_aload_n F 0 dX4_reduce_6 rfl rfl ?_
    refine a_getr (b := 142) F fl_4_20 rfl (hB _ (by decide)) rfl ((hP 126 3 (by decide)).trans rfl) dX4_reduce_7 ?_
    refine a_iload_n F 1 dX4_reduce_10 rfl rfl ?_
    refine a_callV (b := 142) (As := [.int x1]) (st := []) (ci := 10) F (c_10_remainderI (xl X) hP I A J hB 142 rfl (hB _ (by decide)) (hB _ (by decide)) x1 (o_2 c_1) (o_3 c_1)) ml_4_56 im_yX10_remainder se_yX10_remainder (by decide) (by decide) rfl (hB _ (by decide)) rfl rfl dX4_reduce_11 (by decide) (Nat.le_refl 0) (Nat.le_refl 0) (hl_r (hB _ (by decide)) (hl_i (hl_i (hl_i hl_nil)))) hs_nil ?_
    rintro _ _ _ ⟨rfl, rfl, rfl⟩ _
    show WA X (mC P O I A J) pl 0 0 14 [(0, .ref 126), (1, .int x1), (2, .int x2), (3, .int x3)] [.int (nI (valW (J 143) 6 % x1.toNatClampNeg))]
    refine a_if_ne (tgt := 31) F dX4_reduce_14 (by decide) (fun (c_2 : ¬ (nI (valW (J 143) 6 % x1.toNatClampNeg)) = 0) => ?_) (fun (c_2 : (nI (valW (J 143) 6 % x1.toNatClampNeg)) = 0) => ?_)
    · exact e_4 c_1 c_2
    · refine a_aload_n F 0 dX4_reduce_17 rfl rfl ?_
      refine a_getr (b := 142) F fl_4_20 rfl (hB _ (by decide)) rfl ((hP 126 3 (by decide)).trans rfl) dX4_reduce_18 ?_
      refine a_iload_n F 1 dX4_reduce_21 rfl rfl ?_
      refine a_callV (b := 142) (As := [.int x1]) (st := []) (ci := 10) F (c_10_divideI (xl X) hP I A J hB 142 rfl (hB _ (by decide)) (hB _ (by decide)) x1 (o_5 c_1 c_2) (o_6 c_1 c_2)) ml_4_60 im_yX10_divide se_yX10_divide (by decide) (by decide) rfl (hB _ (by decide)) rfl rfl dX4_reduce_22 (by decide) (Nat.le_refl 0) (Nat.le_refl 0) (hl_r (hB _ (by decide)) (hl_i (hl_i (hl_i hl_nil)))) hs_nil ?_
      rintro _ _ _ ⟨rfl, rfl, rfl⟩ _
      show WA X (mC P O I A (up1 J 143 (putW (J 143) 6 (valW (J 143) 6 / x1.toNatClampNeg)))) pl 0 0 25 [(0, .ref 126), (1, .int x1), (2, .int x2), (3, .int x3)] []
      refine a_iinc (v := x3 + (-1)) F 3 dX4_reduce_25 rfl rfl (by decide) rfl ?_
      refine a_goto (tgt := 2) F dX4_reduce_28 (by decide) ?_
      refine a_sub [1, 2, 3, 0] rfl ?_
      exact e_7 c_1 c_2

theorem r_4_reduce_31 {X : Ctx} (F : Fx X cX4_reduce RX4 5 2 0 0) {P O : Nat → Nat → Option Nat} (hP : laP P) {I A : Nat → Nat → Int32} {J : Nat → Nat → Int64} {pl : List Nat} (hB : inB pl) {x1 x2 x3 : Int32}
    (e_1 : WA X (mC P O I A J) pl 0 0 34 [(0, .ref 126), (1, .int x1), (2, .int x2), (3, .int x3), (4, .int 0)] []) :
    WA X (mC P O I A J) pl 0 0 31 [(0, .ref 126), (1, .int x1), (2, .int x2), (3, .int x3)] [] := by
  refine a_iconst (v := 0) F dX4_reduce_31 (by decide) ?_
  refine a_istore F dX4_reduce_32 (by decide) rfl ?_
  refine a_sub [1, 2, 3, 4, 0] rfl ?_
  exact e_1

theorem r_4_reduce_34 {X : Ctx} (F : Fx X cX4_reduce RX4 5 2 0 0) {Φ : Option Value → HS → List Nat → Prop} (E : Ex X none 0 0 Φ) {P O : Nat → Nat → Option Nat} (hP : laP P) {I A : Nat → Nat → Int32} {J : Nat → Nat → Int64} {pl : List Nat} (hB : inB pl) {x1 x2 x3 x4 : Int32}
    (e_1 : (x3 ≤ x4) → Φ none (mC P O I A J) pl)
    (o_2 : (¬ (x3 ≤ x4)) → digW (J 141) 6)
    (o_3 : (¬ (x3 ≤ x4)) → 1 ≤ x1 ∧ x1 ≤ 64)
    (e_4 : (¬ (x3 ≤ x4)) → WA X (mC P O I A (up1 J 141 (putW (J 141) 6 (valW (J 141) 6 * x1.toNatClampNeg)))) pl 0 0 34 [(0, .ref 126), (1, .int x1), (2, .int x2), (3, .int x3), (4, .int (x4 + 1))] []) :
    WA X (mC P O I A J) pl 0 0 34 [(0, .ref 126), (1, .int x1), (2, .int x2), (3, .int x3), (4, .int x4)] [] := by
  refine a_iload F 4 dX4_reduce_34 rfl ?_
  refine a_iload_n F 3 dX4_reduce_36 rfl rfl ?_
  refine a_icmp_ge (tgt := 54) F dX4_reduce_37 (by decide) (fun (c_3 : x3 ≤ x4) => ?_) (fun (c_3 : ¬ (x3 ≤ x4)) => ?_)
  · exact a_vret F E dX4_reduce_54 (Nat.le_refl 0) (Nat.le_refl 0) (e_1 c_3)
  · refine a_aload_n F 0 dX4_reduce_40 rfl rfl ?_
    refine a_getr (b := 140) F fl_4_10 rfl (hB _ (by decide)) rfl ((hP 126 1 (by decide)).trans rfl) dX4_reduce_41 ?_
    refine a_iload_n F 1 dX4_reduce_44 rfl rfl ?_
    refine a_callV (b := 140) (As := [.int x1]) (st := []) (ci := 10) F (c_10_multiplyI (xl X) hP I A J hB 140 rfl (hB _ (by decide)) (hB _ (by decide)) x1 (o_2 c_3) (o_3 c_3)) ml_4_63 im_yX10_multiply se_yX10_multiply (by decide) (by decide) rfl (hB _ (by decide)) rfl rfl dX4_reduce_45 (by decide) (Nat.le_refl 0) (Nat.le_refl 0) (hl_r (hB _ (by decide)) (hl_i (hl_i (hl_i (hl_i hl_nil))))) hs_nil ?_
    rintro _ _ _ ⟨rfl, rfl, rfl⟩ _
    show WA X (mC P O I A (up1 J 141 (putW (J 141) 6 (valW (J 141) 6 * x1.toNatClampNeg)))) pl 0 0 48 [(0, .ref 126), (1, .int x1), (2, .int x2), (3, .int x3), (4, .int x4)] []
    refine a_iinc (v := x4 + 1) F 4 dX4_reduce_48 rfl rfl (by decide) rfl ?_
    refine a_goto (tgt := 34) F dX4_reduce_51 (by decide) ?_
    refine a_sub [1, 2, 3, 4, 0] rfl ?_
    exact e_4 c_3

set_option maxRecDepth 10000 in
theorem c_4_reduce (l : Launch) {P O : Nat → Nat → Option Nat} (hP : laP P) (I A : Nat → Nat → Int32) (J : Nat → Nat → Int64) {pl : List Nat} (hB : inB pl) (v most U L : Nat) (hv2 : 2 ≤ v) (hv3 : v ≤ 3) (hm : most ≤ 100) (d1 : digW (J 143) 6) (v1 : valW (J 143) 6 = U) (d2 : digW (J 141) 6) (v2 : valW (J 141) 6 = L) (hL : L * v ^ most < 2 ^ (31 * 6)) : Con l 2 yX4_reduce cX4_reduce 5 none [.ref 126, .int (nI v), .int (nI most)] (mC P O I A J) pl 0 0 (rdC P O I A J pl v most U L) := by
  refine Con.of (by decide) (Nat.le_of_ble_eq_true rfl) (fun X hX9 hn9 F E => ?_)
  have hU := vw_lt _ d1
  have hv1 : 1 ≤ nI v ∧ nI v ≤ 64 := ⟨(nI_gen 1 (by omega) (by omega)).mpr (by omega), (nI_len 64 (by omega) (by omega)).mpr (by omega)⟩
  have cv : (nI v).toNatClampNeg = v := nI_clamp (by omega)
  have l2 : ∀ n, lessN U v most n → ∀ f k (J1 : Nat → Nat → Int64), k + f = most - n → (∀ p, p ≠ 141 → p ≠ 143 → J1 p = J p) → digW (J1 143) 6 → valW (J1 143) 6 = U / v ^ n → digW (J1 141) 6 → valW (J1 141) 6 = L * v ^ k → WA X (mC P O I A J1) pl 0 0 34 [(0, .ref 126), (1, .int (nI v)), (2, .int (nI most)), (3, .int (nI (most - n))), (4, .int (nI k))] [] := by
    intro n hn f
    induction f with
    | zero =>
      intro k J1 hk hJ e1 e2 e3 e4
      obtain rfl : k = most - n := by omega
      have le : nI (most - n) ≤ nI (most - n) := (nI_leI (by omega) (by omega)).mpr (Nat.le_refl _)
      exact r_4_reduce_34 F E hP hB (fun _ => ⟨J1, n, rfl, rfl, rfl, hJ, hn, e1, e2, e3, e4⟩) (fun z => absurd le z) (fun z => absurd le z) (fun z => absurd le z)
    | succ f ih =>
      intro k J1 hk hJ e1 e2 e3 e4
      have nle : ¬ nI (most - n) ≤ nI k := fun z => by have := (nI_leI (by omega) (by omega)).mp z; omega
      refine r_4_reduce_34 F E hP hB (fun z => absurd z nle) (fun _ => e3) (fun _ => hv1) (fun _ => ?_)
      rw [cv, e4, nI_1, Nat.mul_assoc, ← Nat.pow_succ]
      have hlt : L * v ^ (k + 1) < 2 ^ (31 * 6) := Nat.lt_of_le_of_lt (Nat.mul_le_mul_left L (Nat.pow_le_pow_right (by omega) (by omega))) hL
      refine ih (k + 1) _ (by omega) (fun p a b => by rw [up1_p a]; exact hJ p a b) (by rw [up1_p (by decide)]; exact e1) (by rw [up1_p (by decide)]; exact e2) (by rw [up1_s]; exact pw_dig) ?_
      rw [up1_s, pw_val 6 (Nat.le_refl _), Nat.mod_eq_of_lt hlt]
  have l1 : ∀ f j (J1 : Nat → Nat → Int64), j + f = most → v ^ j ∣ U → (∀ p, p ≠ 141 → p ≠ 143 → J1 p = J p) → digW (J1 143) 6 → valW (J1 143) 6 = U / v ^ j → digW (J1 141) 6 → valW (J1 141) 6 = L → WA X (mC P O I A J1) pl 0 0 2 [(0, .ref 126), (1, .int (nI v)), (2, .int (nI most)), (3, .int (nI (most - j)))] [] := by
    intro f
    induction f with
    | zero =>
      intro j J1 hj hd hJ e1 e2 e3 e4
      obtain rfl : j = most := by omega
      have le : nI (j - j) ≤ 0 := (nI_le0 (by omega)).mpr (by omega)
      refine r_4_reduce_2 F hP hB (fun _ => r_4_reduce_31 F hP hB ?_) (fun z => absurd le z) (fun z => absurd le z) (fun z => absurd le z) (fun z => absurd le z) (fun z => absurd le z) (fun z => absurd le z)
      exact l2 j ⟨Nat.le_refl _, hd, fun z => absurd z (Nat.lt_irrefl _)⟩ (j - j) 0 J1 (by omega) hJ e1 e2 e3 (by rw [e4, Nat.pow_zero, Nat.mul_one])
    | succ f ih =>
      intro j J1 hj hd hJ e1 e2 e3 e4
      have nle : ¬ nI (most - j) ≤ 0 := fun z => by have := (nI_le0 (by omega)).mp z; omega
      have hy := les_y (U := U) (v := v) (j := j) (by omega) hd
      have hr : valW (J1 143) 6 % (nI v).toNatClampNeg = U / v ^ j % v := by rw [cv, e2]
      have hrl : U / v ^ j % v < v := Nat.mod_lt _ (by omega)
      have hz : nI (valW (J1 143) 6 % (nI v).toNatClampNeg) = 0 ↔ v ^ (j + 1) ∣ U := by rw [hr, nI_z (by omega)]; exact hy
      refine r_4_reduce_2 F hP hB (fun z => absurd z nle) (fun _ => e1) (fun _ => hv1) (fun _ z => r_4_reduce_31 F hP hB ?_) (fun _ _ => e1) (fun _ _ => hv1) (fun _ z => ?_)
      · exact l2 j ⟨by omega, hd, fun _ y => z (hz.mpr y)⟩ (most - j) 0 J1 (by omega) hJ e1 e2 e3 (by rw [e4, Nat.pow_zero, Nat.mul_one])
      · have z := hz.mp z
        have em : nI (most - j) + (-1) = nI (most - (j + 1)) := by rw [show most - j = most - (j + 1) + 1 by omega, nI_m1]
        rw [em, cv, e2, Nat.div_div_eq_div_mul, ← Nat.pow_succ]
        refine ih (j + 1) _ (by omega) z (fun p a b => by rw [up1_p b]; exact hJ p a b) (by rw [up1_s]; exact pw_dig) ?_ (by rw [up1_p (by decide)]; exact e3) (by rw [up1_p (by decide)]; exact e4)
        rw [up1_s, pw_val 6 (Nat.le_refl _), Nat.mod_eq_of_lt (Nat.lt_of_le_of_lt (Nat.div_le_self _ _) (by rw [← v1]; exact hU))]
  refine r_4_reduce_0 F hP hB ?_
  exact l1 most 0 J (by omega) (by rw [Nat.pow_zero]; exact Nat.one_dvd _) (fun _ _ _ => rfl) d1 (by rw [v1, Nat.pow_zero, Nat.div_one]) d2 v2

def prX (Uw Lw len : Nat) (txt : Nat → Nat) : Prop := ∃ a, numD Uw a ∧ (∀ i, i < a → txt i = dcd Uw a i) ∧ ((Lw = 1 ∧ len = a) ∨ (Lw ≠ 1 ∧ ∃ b, numD Lw b ∧ len = a + 1 + b ∧ txt a = 47 ∧ ∀ i, i < b → txt (a + 1 + i) = dcd Lw b i))
theorem p36_d {p a b : Nat} (ha : a ≤ 2 * p) (hb : b ≤ 2 * p) : 36 ^ p / 2 ^ a / 3 ^ b = 2 ^ (2 * p - a) * 3 ^ (2 * p - b) := by
  have e : 36 ^ p = 2 ^ a * (3 ^ b * (2 ^ (2 * p - a) * 3 ^ (2 * p - b))) := by
    rw [show (36 : Nat) = 2 ^ 2 * 3 ^ 2 from rfl, Nat.mul_pow, ← Nat.pow_mul, ← Nat.pow_mul]
    conv => lhs; rw [show 2 * p = a + (2 * p - a) by omega, Nat.pow_add]
    conv => lhs; rhs; rw [show a + (2 * p - a) = b + (2 * p - b) by omega, Nat.pow_add]
    rw [Nat.mul_assoc]; congr 1
    rw [Nat.mul_left_comm]
  rw [e, Nat.mul_div_cancel_left _ (Nat.pow_pos (by decide)), Nat.mul_div_cancel_left _ (Nat.pow_pos (by decide))]
theorem prT_0 {p len : Nat} {txt : Nat → Nat} (h : prX 0 1 len txt) : prT 0 p len txt := by
  obtain ⟨a, h1, h2, h3⟩ := h
  have ha : a = 1 := numD_u h1 ⟨by omega, by decide, Or.inl rfl⟩
  subst ha
  left
  rcases h3 with h3 | h3
  · exact ⟨rfl, h3.2, by rw [h2 0 (by omega)]; rfl⟩
  · exact absurd rfl h3.1
theorem prT_1 {u p n2 n3 len : Nat} {txt : Nat → Nat} (hu : u ≠ 0) (h2 : lessN u 2 (2 * p) n2) (h3 : lessN (u / 2 ^ n2) 3 (2 * p) n3) (h : prX (u / 2 ^ n2 / 3 ^ n3) (2 ^ (2 * p - n2) * 3 ^ (2 * p - n3)) len txt) : prT u p len txt := by
  obtain ⟨a, g1, g2, g3⟩ := h
  right
  refine ⟨hu, n2, n3, a, h2, h3, g1, g2, ?_⟩
  rw [p36_d h2.1 h3.1]; exact g3
def prC (P O : Nat → Nat → Option Nat) (I A : Nat → Nat → Int32) (J : Nat → Nat → Int64) (pl : List Nat) (Q : Nat → (Nat → Nat) → Prop) : Option Value → HS → List Nat → Prop := fun r σ' pl' => ∃ I' A' J' len txt, r = none ∧ σ' = mC P O I' A' J' ∧ pl = pl' ∧ (∀ p k, ¬ (p = 122 ∧ k = 1) → I' p k = I p k) ∧ I' 122 1 = nI len ∧ len ≤ 400 ∧ Q len txt ∧ (∀ i, i < len → A' 123 i = nI (txt i)) ∧ (∀ p, p ≠ 123 → p ≠ 127 → A' p = A p) ∧ (∀ p, p ≠ 141 → p ≠ 143 → J' p = J p) ∧ digW (J' 141) 6 ∧ digW (J' 143) 6
