def sumB (B : Nat → Nat) (o : Nat) : Nat → Nat
  | 0 => 0
  | n + 1 => sumB B o n + B (o + n)
theorem su_out {B : Nat → Nat} {o q v : Nat} : ∀ n, q < o ∨ o + n ≤ q → sumB (va_up B q v) o n = sumB B o n
  | 0, _ => rfl
  | n + 1, h => by
    simp only [sumB]; rw [su_out n (by omega)]; simp only [va_up]; rw [if_neg (by omega)]
theorem su_in {B : Nat → Nat} {o j v : Nat} : ∀ n, j < n → sumB (va_up B (o + j) v) o n + B (o + j) = sumB B o n + v
  | 0, h => by omega
  | n + 1, h => by
    simp only [sumB]
    rcases Nat.lt_or_ge j n with h2 | h2
    · have := su_in (B := B) (o := o) (v := v) n h2
      simp only [va_up] at this ⊢; rw [if_neg (show ¬ o + n = o + j by omega)]; omega
    · obtain rfl : j = n := by omega
      rw [su_out j (by omega)]; simp only [va_up, if_true]; omega
theorem su_le {B : Nat → Nat} {o j : Nat} : ∀ n, j < n → B (o + j) ≤ sumB B o n
  | 0, h => by omega
  | n + 1, h => by
    simp only [sumB]
    rcases Nat.lt_or_ge j n with h2 | h2
    · have := su_le (B := B) (o := o) n h2; omega
    · obtain rfl : j = n := by omega
      omega
/-- fifteen men each -/
def okB (B : Nat → Nat) : Prop := sumB B 0 26 = 15 ∧ sumB B 26 26 = 15
theorem okB_le {B : Nat → Nat} (h : okB B) {k : Nat} (hk : k < 52) : B k ≤ 15 := by
  rcases Nat.lt_or_ge k 26 with h2 | h2
  · have := su_le (B := B) (o := 0) 26 h2; rw [Nat.zero_add] at this; have := h.1; omega
  · have := su_le (B := B) (o := 26) (j := k - 26) 26 (by omega); rw [show 26 + (k - 26) = k by omega] at this; have := h.2; omega
def mv1 (B : Nat → Nat) (m p d : Nat) : Nat → Nat := va_up (va_up B (26 * m + p) (B (26 * m + p) - 1)) (26 * m + (p - d)) (va_up B (26 * m + p) (B (26 * m + p) - 1) (26 * m + (p - d)) + 1)
def hitP (B : Nat → Nat) (m p d : Nat) : Prop := d < p ∧ ¬ B (26 * (1 - m) + (25 - (p - d))) = 0
/-- the board behind a move -/
noncomputable def mvB (B : Nat → Nat) (m p d : Nat) : Nat → Nat := if d < p ∧ ¬ B (26 * (1 - m) + (25 - (p - d))) = 0 then va_up (va_up (mv1 B m p d) (26 * (1 - m) + (25 - (p - d))) 0) (26 * (1 - m) + 25) (B (26 * (1 - m) + 25) + 1) else mv1 B m p d
theorem mv1_ok {B : Nat → Nat} {m p d o : Nat} (hm : m ≤ 1) (hp : p ≤ 25) (hB : ¬ B (26 * m + p) = 0) (ho : o = 0 ∨ o = 26) : sumB (mv1 B m p d) o 26 = sumB B o 26 := by
  unfold mv1
  by_cases e : o = 26 * m
  · subst e
    have h1 := su_in (B := B) (o := 26 * m) (j := p) (v := B (26 * m + p) - 1) 26 (by omega)
    have h2 := su_in (B := va_up B (26 * m + p) (B (26 * m + p) - 1)) (o := 26 * m) (j := p - d) (v := va_up B (26 * m + p) (B (26 * m + p) - 1) (26 * m + (p - d)) + 1) 26 (by omega)
    omega
  · rw [su_out 26 (by omega), su_out 26 (by omega)]
theorem mvB_ok {B : Nat → Nat} {m p d : Nat} (h : okB B) (hm : m ≤ 1) (hp1 : 1 ≤ p) (hp : p ≤ 25) (hd : 1 ≤ d) (hc : cmP B m p d) : okB (mvB B m p d) := by
  have h1 : ∀ o, o = 0 ∨ o = 26 → sumB (mvB B m p d) o 26 = sumB B o 26 := by
    intro o ho
    unfold mvB
    by_cases hh : d < p ∧ ¬ B (26 * (1 - m) + (25 - (p - d))) = 0
    · rw [if_pos hh]
      have hb : B (26 * (1 - m) + (25 - (p - d))) = 1 := by have := hc.2.2; rw [if_pos hh.1] at this; omega
      have hm1 : mv1 B m p d (26 * (1 - m) + (25 - (p - d))) = 1 := by unfold mv1; simp only [va_up]; rw [if_neg (by omega), if_neg (by omega)]; exact hb
      have hm2 : mv1 B m p d (26 * (1 - m) + 25) = B (26 * (1 - m) + 25) := by unfold mv1; simp only [va_up]; rw [if_neg (by omega), if_neg (by omega)]
      by_cases e : o = 26 * (1 - m)
      · subst e
        have g1 := su_in (B := mv1 B m p d) (o := 26 * (1 - m)) (j := 25 - (p - d)) (v := 0) 26 (by omega)
        have g2 := su_in (B := va_up (mv1 B m p d) (26 * (1 - m) + (25 - (p - d))) 0) (o := 26 * (1 - m)) (j := 25) (v := B (26 * (1 - m) + 25) + 1) 26 (by omega)
        have g3 : va_up (mv1 B m p d) (26 * (1 - m) + (25 - (p - d))) 0 (26 * (1 - m) + 25) = B (26 * (1 - m) + 25) := by simp only [va_up]; rw [if_neg (by omega)]; exact hm2
        have g4 := mv1_ok (d := d) hm hp hc.1 ho
        rw [g3] at g2; rw [hm1] at g1; omega
      · rw [su_out 26 (by omega), su_out 26 (by omega)]; exact mv1_ok hm hp hc.1 ho
    · rw [if_neg hh]; exact mv1_ok hm hp hc.1 ho
  exact ⟨(h1 0 (Or.inl rfl)).trans h.1, (h1 26 (Or.inr rfl)).trans h.2⟩

theorem r_12_move_0 {X : Ctx} (F : Fx X cX12_move RX12 7 1 0 0) {I A : Nat → Nat → Int32} {J : Nat → Nat → Int64} {x1 x2 x3 : Int32}
    (e_1 : WA X (mS I A J) plM 0 0 3 [(0, .ref 0), (1, .int x1), (2, .int x2), (3, .int x3), (4, .int 0)] []) :
    WA X (mS I A J) plM 0 0 0 [(0, .ref 0), (1, .int x1), (2, .int x2), (3, .int x3)] [] := by
  refine a_iconst (v := 0) F dX12_move_0 (by decide) ?_
  refine a_istore F dX12_move_1 (by decide) rfl ?_
  refine a_sub [1, 2, 3, 4, 0] rfl ?_
  exact e_1

theorem r_12_move_3 {X : Ctx} (F : Fx X cX12_move RX12 7 1 0 0) {Φ : Option Value → HS → List Nat → Prop} (E : Ex X (some .boolean) 0 0 Φ) {I A : Nat → Nat → Int32} {J : Nat → Nat → Int64} {x1 x2 x3 x4 : Int32}
    (o_1 : (52 ≤ x4) → vp_in (((52 * (x1 + 1)) + (26 * (I 0 8))) + x2) 468)
    (o_2 : (52 ≤ x4) → vp_in (((52 * (x1 + 1)) + (26 * (I 0 8))) + x2) 468)
    (o_3 : (52 ≤ x4) → vp_in (((52 * (x1 + 1)) + (26 * (I 0 8))) + (if x2 ≤ x3 then 0 else (x2 - x3))) 468)
    (o_4 : (52 ≤ x4) → vp_in (((52 * (x1 + 1)) + (26 * (I 0 8))) + (if x2 ≤ x3 then 0 else (x2 - x3))) 468)
    (e_5 : (52 ≤ x4) → ((if x2 ≤ x3 then 0 else (x2 - x3)) = 0) → Φ (some (.int 0)) (mS I (up1 (up1 A 3 (upd (A 3) (((52 * (x1 + 1)) + (26 * (I 0 8))) + x2).toNatClampNeg ((A 3 (((52 * (x1 + 1)) + (26 * (I 0 8))) + x2).toNatClampNeg) - 1))) 3 (upd (upd (A 3) (((52 * (x1 + 1)) + (26 * (I 0 8))) + x2).toNatClampNeg ((A 3 (((52 * (x1 + 1)) + (26 * (I 0 8))) + x2).toNatClampNeg) - 1)) (((52 * (x1 + 1)) + (26 * (I 0 8))) + (if x2 ≤ x3 then 0 else (x2 - x3))).toNatClampNeg (((upd (A 3) (((52 * (x1 + 1)) + (26 * (I 0 8))) + x2).toNatClampNeg ((A 3 (((52 * (x1 + 1)) + (26 * (I 0 8))) + x2).toNatClampNeg) - 1)) (((52 * (x1 + 1)) + (26 * (I 0 8))) + (if x2 ≤ x3 then 0 else (x2 - x3))).toNatClampNeg) + 1))) J) plM)
    (o_6 : (52 ≤ x4) → (¬ ((if x2 ≤ x3 then 0 else (x2 - x3)) = 0)) → vp_in ((((52 * (x1 + 1)) + (26 * (1 - (I 0 8)))) + 25) - (if x2 ≤ x3 then 0 else (x2 - x3))) 468)
    (o_7 : (52 ≤ x4) → (¬ ((if x2 ≤ x3 then 0 else (x2 - x3)) = 0)) → (¬ ((upd (upd (A 3) (((52 * (x1 + 1)) + (26 * (I 0 8))) + x2).toNatClampNeg ((A 3 (((52 * (x1 + 1)) + (26 * (I 0 8))) + x2).toNatClampNeg) - 1)) (((52 * (x1 + 1)) + (26 * (I 0 8))) + (if x2 ≤ x3 then 0 else (x2 - x3))).toNatClampNeg (((upd (A 3) (((52 * (x1 + 1)) + (26 * (I 0 8))) + x2).toNatClampNeg ((A 3 (((52 * (x1 + 1)) + (26 * (I 0 8))) + x2).toNatClampNeg) - 1)) (((52 * (x1 + 1)) + (26 * (I 0 8))) + (if x2 ≤ x3 then 0 else (x2 - x3))).toNatClampNeg) + 1)) ((((52 * (x1 + 1)) + (26 * (1 - (I 0 8)))) + 25) - (if x2 ≤ x3 then 0 else (x2 - x3))).toNatClampNeg) = 0) → vp_in ((((52 * (x1 + 1)) + (26 * (1 - (I 0 8)))) + 25) - (if x2 ≤ x3 then 0 else (x2 - x3))) 468)
    (o_8 : (52 ≤ x4) → (¬ ((if x2 ≤ x3 then 0 else (x2 - x3)) = 0)) → (¬ ((upd (upd (A 3) (((52 * (x1 + 1)) + (26 * (I 0 8))) + x2).toNatClampNeg ((A 3 (((52 * (x1 + 1)) + (26 * (I 0 8))) + x2).toNatClampNeg) - 1)) (((52 * (x1 + 1)) + (26 * (I 0 8))) + (if x2 ≤ x3 then 0 else (x2 - x3))).toNatClampNeg (((upd (A 3) (((52 * (x1 + 1)) + (26 * (I 0 8))) + x2).toNatClampNeg ((A 3 (((52 * (x1 + 1)) + (26 * (I 0 8))) + x2).toNatClampNeg) - 1)) (((52 * (x1 + 1)) + (26 * (I 0 8))) + (if x2 ≤ x3 then 0 else (x2 - x3))).toNatClampNeg) + 1)) ((((52 * (x1 + 1)) + (26 * (1 - (I 0 8)))) + 25) - (if x2 ≤ x3 then 0 else (x2 - x3))).toNatClampNeg) = 0) → vp_in (((52 * (x1 + 1)) + (26 * (1 - (I 0 8)))) + 25) 468)
    (o_9 : (52 ≤ x4) → (¬ ((if x2 ≤ x3 then 0 else (x2 - x3)) = 0)) → (¬ ((upd (upd (A 3) (((52 * (x1 + 1)) + (26 * (I 0 8))) + x2).toNatClampNeg ((A 3 (((52 * (x1 + 1)) + (26 * (I 0 8))) + x2).toNatClampNeg) - 1)) (((52 * (x1 + 1)) + (26 * (I 0 8))) + (if x2 ≤ x3 then 0 else (x2 - x3))).toNatClampNeg (((upd (A 3) (((52 * (x1 + 1)) + (26 * (I 0 8))) + x2).toNatClampNeg ((A 3 (((52 * (x1 + 1)) + (26 * (I 0 8))) + x2).toNatClampNeg) - 1)) (((52 * (x1 + 1)) + (26 * (I 0 8))) + (if x2 ≤ x3 then 0 else (x2 - x3))).toNatClampNeg) + 1)) ((((52 * (x1 + 1)) + (26 * (1 - (I 0 8)))) + 25) - (if x2 ≤ x3 then 0 else (x2 - x3))).toNatClampNeg) = 0) → vp_in (((52 * (x1 + 1)) + (26 * (1 - (I 0 8)))) + 25) 468)
    (e_10 : (52 ≤ x4) → (¬ ((if x2 ≤ x3 then 0 else (x2 - x3)) = 0)) → (¬ ((upd (upd (A 3) (((52 * (x1 + 1)) + (26 * (I 0 8))) + x2).toNatClampNeg ((A 3 (((52 * (x1 + 1)) + (26 * (I 0 8))) + x2).toNatClampNeg) - 1)) (((52 * (x1 + 1)) + (26 * (I 0 8))) + (if x2 ≤ x3 then 0 else (x2 - x3))).toNatClampNeg (((upd (A 3) (((52 * (x1 + 1)) + (26 * (I 0 8))) + x2).toNatClampNeg ((A 3 (((52 * (x1 + 1)) + (26 * (I 0 8))) + x2).toNatClampNeg) - 1)) (((52 * (x1 + 1)) + (26 * (I 0 8))) + (if x2 ≤ x3 then 0 else (x2 - x3))).toNatClampNeg) + 1)) ((((52 * (x1 + 1)) + (26 * (1 - (I 0 8)))) + 25) - (if x2 ≤ x3 then 0 else (x2 - x3))).toNatClampNeg) = 0) → Φ (some (.int 1)) (mS I (up1 (up1 (up1 (up1 A 3 (upd (A 3) (((52 * (x1 + 1)) + (26 * (I 0 8))) + x2).toNatClampNeg ((A 3 (((52 * (x1 + 1)) + (26 * (I 0 8))) + x2).toNatClampNeg) - 1))) 3 (upd (upd (A 3) (((52 * (x1 + 1)) + (26 * (I 0 8))) + x2).toNatClampNeg ((A 3 (((52 * (x1 + 1)) + (26 * (I 0 8))) + x2).toNatClampNeg) - 1)) (((52 * (x1 + 1)) + (26 * (I 0 8))) + (if x2 ≤ x3 then 0 else (x2 - x3))).toNatClampNeg (((upd (A 3) (((52 * (x1 + 1)) + (26 * (I 0 8))) + x2).toNatClampNeg ((A 3 (((52 * (x1 + 1)) + (26 * (I 0 8))) + x2).toNatClampNeg) - 1)) (((52 * (x1 + 1)) + (26 * (I 0 8))) + (if x2 ≤ x3 then 0 else (x2 - x3))).toNatClampNeg) + 1))) 3 (upd (upd (upd (A 3) (((52 * (x1 + 1)) + (26 * (I 0 8))) + x2).toNatClampNeg ((A 3 (((52 * (x1 + 1)) + (26 * (I 0 8))) + x2).toNatClampNeg) - 1)) (((52 * (x1 + 1)) + (26 * (I 0 8))) + (if x2 ≤ x3 then 0 else (x2 - x3))).toNatClampNeg (((upd (A 3) (((52 * (x1 + 1)) + (26 * (I 0 8))) + x2).toNatClampNeg ((A 3 (((52 * (x1 + 1)) + (26 * (I 0 8))) + x2).toNatClampNeg) - 1)) (((52 * (x1 + 1)) + (26 * (I 0 8))) + (if x2 ≤ x3 then 0 else (x2 - x3))).toNatClampNeg) + 1)) ((((52 * (x1 + 1)) + (26 * (1 - (I 0 8)))) + 25) - (if x2 ≤ x3 then 0 else (x2 - x3))).toNatClampNeg 0)) 3 (upd (upd (upd (upd (A 3) (((52 * (x1 + 1)) + (26 * (I 0 8))) + x2).toNatClampNeg ((A 3 (((52 * (x1 + 1)) + (26 * (I 0 8))) + x2).toNatClampNeg) - 1)) (((52 * (x1 + 1)) + (26 * (I 0 8))) + (if x2 ≤ x3 then 0 else (x2 - x3))).toNatClampNeg (((upd (A 3) (((52 * (x1 + 1)) + (26 * (I 0 8))) + x2).toNatClampNeg ((A 3 (((52 * (x1 + 1)) + (26 * (I 0 8))) + x2).toNatClampNeg) - 1)) (((52 * (x1 + 1)) + (26 * (I 0 8))) + (if x2 ≤ x3 then 0 else (x2 - x3))).toNatClampNeg) + 1)) ((((52 * (x1 + 1)) + (26 * (1 - (I 0 8)))) + 25) - (if x2 ≤ x3 then 0 else (x2 - x3))).toNatClampNeg 0) (((52 * (x1 + 1)) + (26 * (1 - (I 0 8)))) + 25).toNatClampNeg (((upd (upd (upd (A 3) (((52 * (x1 + 1)) + (26 * (I 0 8))) + x2).toNatClampNeg ((A 3 (((52 * (x1 + 1)) + (26 * (I 0 8))) + x2).toNatClampNeg) - 1)) (((52 * (x1 + 1)) + (26 * (I 0 8))) + (if x2 ≤ x3 then 0 else (x2 - x3))).toNatClampNeg (((upd (A 3) (((52 * (x1 + 1)) + (26 * (I 0 8))) + x2).toNatClampNeg ((A 3 (((52 * (x1 + 1)) + (26 * (I 0 8))) + x2).toNatClampNeg) - 1)) (((52 * (x1 + 1)) + (26 * (I 0 8))) + (if x2 ≤ x3 then 0 else (x2 - x3))).toNatClampNeg) + 1)) ((((52 * (x1 + 1)) + (26 * (1 - (I 0 8)))) + 25) - (if x2 ≤ x3 then 0 else (x2 - x3))).toNatClampNeg 0) (((52 * (x1 + 1)) + (26 * (1 - (I 0 8)))) + 25).toNatClampNeg) + 1))) J) plM)
    (e_11 : (52 ≤ x4) → (¬ ((if x2 ≤ x3 then 0 else (x2 - x3)) = 0)) → (((upd (upd (A 3) (((52 * (x1 + 1)) + (26 * (I 0 8))) + x2).toNatClampNeg ((A 3 (((52 * (x1 + 1)) + (26 * (I 0 8))) + x2).toNatClampNeg) - 1)) (((52 * (x1 + 1)) + (26 * (I 0 8))) + (if x2 ≤ x3 then 0 else (x2 - x3))).toNatClampNeg (((upd (A 3) (((52 * (x1 + 1)) + (26 * (I 0 8))) + x2).toNatClampNeg ((A 3 (((52 * (x1 + 1)) + (26 * (I 0 8))) + x2).toNatClampNeg) - 1)) (((52 * (x1 + 1)) + (26 * (I 0 8))) + (if x2 ≤ x3 then 0 else (x2 - x3))).toNatClampNeg) + 1)) ((((52 * (x1 + 1)) + (26 * (1 - (I 0 8)))) + 25) - (if x2 ≤ x3 then 0 else (x2 - x3))).toNatClampNeg) = 0) → Φ (some (.int 0)) (mS I (up1 (up1 A 3 (upd (A 3) (((52 * (x1 + 1)) + (26 * (I 0 8))) + x2).toNatClampNeg ((A 3 (((52 * (x1 + 1)) + (26 * (I 0 8))) + x2).toNatClampNeg) - 1))) 3 (upd (upd (A 3) (((52 * (x1 + 1)) + (26 * (I 0 8))) + x2).toNatClampNeg ((A 3 (((52 * (x1 + 1)) + (26 * (I 0 8))) + x2).toNatClampNeg) - 1)) (((52 * (x1 + 1)) + (26 * (I 0 8))) + (if x2 ≤ x3 then 0 else (x2 - x3))).toNatClampNeg (((upd (A 3) (((52 * (x1 + 1)) + (26 * (I 0 8))) + x2).toNatClampNeg ((A 3 (((52 * (x1 + 1)) + (26 * (I 0 8))) + x2).toNatClampNeg) - 1)) (((52 * (x1 + 1)) + (26 * (I 0 8))) + (if x2 ≤ x3 then 0 else (x2 - x3))).toNatClampNeg) + 1))) J) plM)
    (o_12 : (¬ (52 ≤ x4)) → vp_in ((52 * x1) + x4) 468)
    (o_13 : (¬ (52 ≤ x4)) → vp_in ((52 * (x1 + 1)) + x4) 468)
    (e_14 : (¬ (52 ≤ x4)) → WA X (mS I (up1 A 3 (upd (A 3) ((52 * (x1 + 1)) + x4).toNatClampNeg (A 3 ((52 * x1) + x4).toNatClampNeg))) J) plM 0 0 3 [(0, .ref 0), (1, .int x1), (2, .int x2), (3, .int x3), (4, .int (x4 + 1))] []) :
    WA X (mS I A J) plM 0 0 3 [(0, .ref 0), (1, .int x1), (2, .int x2), (3, .int x3), (4, .int x4)] [] := by
  refine a_iload F 4 dX12_move_3 rfl ?_
  refine a_bipush (v := 52) F dX12_move_5 (by decide) ?_
  refine a_icmp_ge (tgt := 42) F dX12_move_7 (by decide) (fun (c_1 : 52 ≤ x4) => ?_) (fun (c_1 : ¬ (52 ≤ x4)) => ?_)
  · refine a_bipush (v := 52) F dX12_move_42 (by decide) ?_
    refine a_iload_n F 1 dX12_move_44 rfl rfl ?_
    refine a_iconst (v := 1) F dX12_move_45 (by decide) ?_
    refine a_iadd F dX12_move_46 ?_
    refine a_imul F dX12_move_47 ?_
    refine a_bipush (v := 26) F dX12_move_48 (by decide) ?_
    refine a_aload_n F 0 dX12_move_50 rfl rfl ?_
    refine a_geti F fl_12_176 rfl (by decide) rfl dX12_move_51 ?_
    refine a_imul F dX12_move_54 ?_
    refine a_iadd F dX12_move_55 ?_
    refine a_istore F dX12_move_56 (by decide) rfl ?_
    refine a_bipush (v := 52) F dX12_move_58 (by decide) ?_
    refine a_iload_n F 2 dX12_move_60 rfl rfl ?_
    refine a_iconst (v := 1) F dX12_move_61 (by decide) ?_
    refine a_iadd F dX12_move_62 ?_
    refine a_imul F dX12_move_63 ?_
    refine a_bipush (v := 26) F dX12_move_64 (by decide) ?_
    refine a_iconst (v := 1) F dX12_move_66 (by decide) ?_
    refine a_aload_n F 1 dX12_move_67 rfl rfl ?_
    refine a_geti F fl_12_176 rfl (by decide) rfl dX12_move_68 ?_
    refine a_isub F dX12_move_71 ?_
    refine a_imul F dX12_move_72 ?_
    refine a_iadd F dX12_move_73 ?_
    refine a_istore F dX12_move_74 (by decide) rfl ?_
    refine a_iload_n F 4 dX12_move_76 rfl rfl ?_
    refine a_iload_n F 5 dX12_move_77 rfl rfl ?_
    suffices k : ∀ z9 : Int32, z9 = (if x2 ≤ x3 then 0 else (x2 - x3)) → WA X (mS I A J) plM 0 0 88 [(5, .int ((52 * (x1 + 1)) + (26 * (1 - (I 0 8))))), (4, .int ((52 * (x1 + 1)) + (26 * (I 0 8)))), (0, .ref 0), (1, .int x1), (2, .int x2), (3, .int x3)] [.int z9] by
      refine a_icmp_le (tgt := 87) F dX12_move_78 (by decide) (fun (c_2 : x2 ≤ x3) => ?_) (fun (c_2 : ¬ (x2 ≤ x3)) => ?_)
      · refine a_iconst (v := 0) F dX12_move_87 (by decide) ?_
        exact k _ (by rw [if_pos c_2] <;> rfl)
      · refine a_iload_n F 4 dX12_move_81 rfl rfl ?_
        refine a_iload_n F 5 dX12_move_82 rfl rfl ?_
        refine a_isub F dX12_move_83 ?_
        refine a_goto (tgt := 88) F dX12_move_84 (by decide) ?_
        exact k _ (by rw [if_neg c_2] <;> rfl)
    rintro _ rfl
    refine a_istore F dX12_move_88 (by decide) rfl ?_
    refine a_aload_n F 3 dX12_move_90 rfl rfl ?_
    refine a_getr (b := 3) F fl_12_17 rfl (by decide) rfl rfl dX12_move_91 ?_
    refine a_iload F 2 dX12_move_94 rfl ?_
    refine a_iload_n F 5 dX12_move_96 rfl rfl ?_
    refine a_iadd F dX12_move_97 ?_
    refine a_dup2 F dX12_move_98 rfl rfl ?_
    refine a_iald F (by decide) rfl (o_1 c_1) dX12_move_99 ?_
    refine a_iconst (v := 1) F dX12_move_100 (by decide) ?_
    refine a_isub F dX12_move_101 ?_
    refine a_iast F (by decide) rfl (o_2 c_1) dX12_move_102 ?_
    refine a_aload_n F 3 dX12_move_103 rfl rfl ?_
    refine a_getr (b := 3) F fl_12_17 rfl (by decide) rfl rfl dX12_move_104 ?_
    refine a_iload F 2 dX12_move_107 rfl ?_
    refine a_iload F 0 dX12_move_109 rfl ?_
    refine a_iadd F dX12_move_111 ?_
    refine a_dup2 F dX12_move_112 rfl rfl ?_
    refine a_iald F (by decide) rfl (o_3 c_1) dX12_move_113 ?_
    refine a_iconst (v := 1) F dX12_move_114 (by decide) ?_
    refine a_iadd F dX12_move_115 ?_
    refine a_iast F (by decide) rfl (o_4 c_1) dX12_move_116 ?_
    refine a_iload F 0 dX12_move_117 rfl ?_
    refine a_if_eq (tgt := 138) F dX12_move_119 (by decide) (fun (c_3 : (if x2 ≤ x3 then 0 else (x2 - x3)) = 0) => ?_) (fun (c_3 : ¬ ((if x2 ≤ x3 then 0 else (x2 - x3)) = 0)) => ?_)
    · refine a_iconst (v := 0) F dX12_move_138 (by decide) ?_
      exact a_zret F E (by decide) dX12_move_139 (Nat.le_refl 0) (Nat.le_refl 0) (e_5 c_1 c_3)
    · refine a_aload_n F 3 dX12_move_122 rfl rfl ?_
      refine a_getr (b := 3) F fl_12_17 rfl (by decide) rfl rfl dX12_move_123 ?_
      refine a_iload F 1 dX12_move_126 rfl ?_
      refine a_bipush (v := 25) F dX12_move_128 (by decide) ?_
      refine a_iadd F dX12_move_130 ?_
      refine a_iload F 0 dX12_move_131 rfl ?_
      refine a_isub F dX12_move_133 ?_
      refine a_iald F (by decide) rfl (o_6 c_1 c_3) dX12_move_134 ?_
      refine a_if_ne (tgt := 140) F dX12_move_135 (by decide) (fun (c_4 : ¬ ((upd (upd (A 3) (((52 * (x1 + 1)) + (26 * (I 0 8))) + x2).toNatClampNeg ((A 3 (((52 * (x1 + 1)) + (26 * (I 0 8))) + x2).toNatClampNeg) - 1)) (((52 * (x1 + 1)) + (26 * (I 0 8))) + (if x2 ≤ x3 then 0 else (x2 - x3))).toNatClampNeg (((upd (A 3) (((52 * (x1 + 1)) + (26 * (I 0 8))) + x2).toNatClampNeg ((A 3 (((52 * (x1 + 1)) + (26 * (I 0 8))) + x2).toNatClampNeg) - 1)) (((52 * (x1 + 1)) + (26 * (I 0 8))) + (if x2 ≤ x3 then 0 else (x2 - x3))).toNatClampNeg) + 1)) ((((52 * (x1 + 1)) + (26 * (1 - (I 0 8)))) + 25) - (if x2 ≤ x3 then 0 else (x2 - x3))).toNatClampNeg) = 0) => ?_) (fun (c_4 : ((upd (upd (A 3) (((52 * (x1 + 1)) + (26 * (I 0 8))) + x2).toNatClampNeg ((A 3 (((52 * (x1 + 1)) + (26 * (I 0 8))) + x2).toNatClampNeg) - 1)) (((52 * (x1 + 1)) + (26 * (I 0 8))) + (if x2 ≤ x3 then 0 else (x2 - x3))).toNatClampNeg (((upd (A 3) (((52 * (x1 + 1)) + (26 * (I 0 8))) + x2).toNatClampNeg ((A 3 (((52 * (x1 + 1)) + (26 * (I 0 8))) + x2).toNatClampNeg) - 1)) (((52 * (x1 + 1)) + (26 * (I 0 8))) + (if x2 ≤ x3 then 0 else (x2 - x3))).toNatClampNeg) + 1)) ((((52 * (x1 + 1)) + (26 * (1 - (I 0 8)))) + 25) - (if x2 ≤ x3 then 0 else (x2 - x3))).toNatClampNeg) = 0) => ?_)
      · refine a_aload_n F 3 dX12_move_140 rfl rfl ?_
        refine a_getr (b := 3) F fl_12_17 rfl (by decide) rfl rfl dX12_move_141 ?_
        refine a_iload F 1 dX12_move_144 rfl ?_
        refine a_bipush (v := 25) F dX12_move_146 (by decide) ?_
        refine a_iadd F dX12_move_148 ?_
        refine a_iload F 0 dX12_move_149 rfl ?_
        refine a_isub F dX12_move_151 ?_
        refine a_iconst (v := 0) F dX12_move_152 (by decide) ?_
        refine a_iast F (by decide) rfl (o_7 c_1 c_3 c_4) dX12_move_153 ?_
        refine a_aload_n F 3 dX12_move_154 rfl rfl ?_
        refine a_getr (b := 3) F fl_12_17 rfl (by decide) rfl rfl dX12_move_155 ?_
        refine a_iload F 1 dX12_move_158 rfl ?_
        refine a_bipush (v := 25) F dX12_move_160 (by decide) ?_
        refine a_iadd F dX12_move_162 ?_
        refine a_dup2 F dX12_move_163 rfl rfl ?_
        refine a_iald F (by decide) rfl (o_8 c_1 c_3 c_4) dX12_move_164 ?_
        refine a_iconst (v := 1) F dX12_move_165 (by decide) ?_
        refine a_iadd F dX12_move_166 ?_
        refine a_iast F (by decide) rfl (o_9 c_1 c_3 c_4) dX12_move_167 ?_
        refine a_iconst (v := 1) F dX12_move_168 (by decide) ?_
        exact a_zret F E (by decide) dX12_move_169 (Nat.le_refl 0) (Nat.le_refl 0) (e_10 c_1 c_3 c_4)
      · refine a_iconst (v := 0) F dX12_move_138 (by decide) ?_
        exact a_zret F E (by decide) dX12_move_139 (Nat.le_refl 0) (Nat.le_refl 0) (e_11 c_1 c_3 c_4)
  · refine a_aload_n F 0 dX12_move_10 rfl rfl ?_
    refine a_getr (b := 3) F fl_12_17 rfl (by decide) rfl rfl dX12_move_11 ?_
    refine a_bipush (v := 52) F dX12_move_14 (by decide) ?_
    refine a_iload_n F 1 dX12_move_16 rfl rfl ?_
    refine a_iconst (v := 1) F dX12_move_17 (by decide) ?_
    refine a_iadd F dX12_move_18 ?_
    refine a_imul F dX12_move_19 ?_
    refine a_iload F 4 dX12_move_20 rfl ?_
    refine a_iadd F dX12_move_22 ?_
    refine a_aload_n F 0 dX12_move_23 rfl rfl ?_
    refine a_getr (b := 3) F fl_12_17 rfl (by decide) rfl rfl dX12_move_24 ?_
    refine a_bipush (v := 52) F dX12_move_27 (by decide) ?_
    refine a_iload_n F 1 dX12_move_29 rfl rfl ?_
    refine a_imul F dX12_move_30 ?_
    refine a_iload F 4 dX12_move_31 rfl ?_
    refine a_iadd F dX12_move_33 ?_
    refine a_iald F (by decide) rfl (o_12 c_1) dX12_move_34 ?_
    refine a_iast F (by decide) rfl (o_13 c_1) dX12_move_35 ?_
    refine a_iinc (v := x4 + 1) F 4 dX12_move_36 rfl rfl (by decide) rfl ?_
    refine a_goto (tgt := 3) F dX12_move_39 (by decide) ?_
    refine a_sub [1, 2, 3, 4, 0] rfl ?_
    exact e_14 c_1
