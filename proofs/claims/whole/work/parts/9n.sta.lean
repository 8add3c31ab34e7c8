/-! all rolls of two dice, as the class sums them -/
def dm (a b : Nat) : Nat := if a = b then 1 else 2
def psS (f : Nat → Nat → Nat) (a b : Nat) : Nat := sumB (fun i => sumB (fun j => dm i j * f i j) i (7 - i)) 1 (a - 1) + sumB (fun j => dm a j * f a j) a (b - a)
theorem ps_1 (f : Nat → Nat → Nat) : psS f 1 1 = 0 := rfl
theorem ps_b (f : Nat → Nat → Nat) {a b : Nat} (h : a ≤ b) : psS f a (b + 1) = psS f a b + dm a b * f a b := by
  unfold psS
  rw [show b + 1 - a = (b - a) + 1 by omega]
  show _ + (sumB _ a (b - a) + dm a (a + (b - a)) * f a (a + (b - a))) = _
  rw [show a + (b - a) = b by omega]; omega
theorem ps_a (f : Nat → Nat → Nat) {a : Nat} (h : 1 ≤ a) : psS f (a + 1) (a + 1) = psS f a 7 := by
  unfold psS
  rw [show a + 1 - 1 = (a - 1) + 1 by omega, show a + 1 - (a + 1) = 0 by omega]
  show sumB _ 1 (a - 1) + sumB (fun j => dm (1 + (a - 1)) j * f (1 + (a - 1)) j) (1 + (a - 1)) (7 - (1 + (a - 1))) + 0 = _
  rw [show 1 + (a - 1) = a by omega]; omega
theorem ps_D (f : Nat → Nat → Nat) (h : ∀ a b, 1 ≤ a → a ≤ 6 → 1 ≤ b → b ≤ 6 → f a b = f b a) : psS f 7 7 = sumD f := by
  have e : ∀ a b, a < b → 1 ≤ a → b ≤ 6 → f a b = f b a := fun a b h1 h2 h3 => h a b h2 (by omega) (by omega) h3
  simp only [psS, sumD, sumB, dm, Nat.reduceAdd, Nat.reduceSub, Nat.reduceEqDiff, if_true, if_false]
  rw [e 1 2 (by omega) (by omega) (by omega), e 1 3 (by omega) (by omega) (by omega), e 1 4 (by omega) (by omega) (by omega), e 1 5 (by omega) (by omega) (by omega), e 1 6 (by omega) (by omega) (by omega), e 2 3 (by omega) (by omega) (by omega), e 2 4 (by omega) (by omega) (by omega), e 2 5 (by omega) (by omega) (by omega), e 2 6 (by omega) (by omega) (by omega), e 3 4 (by omega) (by omega) (by omega), e 3 5 (by omega) (by omega) (by omega), e 3 6 (by omega) (by omega) (by omega), e 4 5 (by omega) (by omega) (by omega), e 4 6 (by omega) (by omega) (by omega), e 5 6 (by omega) (by omega) (by omega)]
  omega
theorem frP.lf {P P' : Nat → Nat → Option Nat} (h : frP P P') (hF : laF P) : laF P' := fun p hp => by
  rw [← hF p hp]; funext k
  exact h p k (fun z => by rw [z.1] at hp; exact absurd hp (by decide))
theorem frK.sh {I I' : Nat → Nat → Int32} (h : frK I I') (hI : shI I) : shI I' := fun k => by
  rw [← hI k]; funext j; exact h _ j (fun z => by omega)
theorem dn_cg {O : Nat → Nat → Option Nat} {J J' : Nat → Nat → Int64} {t : Nat} (h : ∀ q, 1000 ≤ q → J' q = J q) (hd : dnC O J t) : dnC O J' t := by
  have e : clJ J' t = clJ J t := by unfold clJ; rw [h _ (by omega)]
  unfold dnC; rw [e]; exact hd
/-- the tables of the bearing off -/
def pwT (J : Nat → Nat → Int64) : Prop := (∀ n, n ≤ 12 → J 119 n = lN (36 ^ n)) ∧ digW (J 145) 6 ∧ valW (J 145) 6 = 36 ^ 32
theorem eF_b {s : Nat} (hs : stnd s) : eF 32 s < 2 ^ 186 := Nat.lt_of_le_of_lt (Nat.le_trans (eF_le 32 s hs) (Nat.mul_le_mul_right _ (pip_90 hs))) (by decide)
theorem sE_b {s : Nat} (hs : stnd s) : sumD (fun a b => eF 32 (bst (eF 32) s a b)) < 2 ^ 186 := Nat.lt_of_le_of_lt (sumD_le (m := 90 * 36 ^ 32) (fun a b a1 _ b1 _ => by
  have h := (Res_st a1 b1 hs (bst_is (eF 32) a1 b1 hs).1).1
  exact Nat.le_trans (eF_le 32 _ h) (Nat.mul_le_mul_right _ (pip_90 h)))) (by decide)
theorem wN_b (n s : Nat) (hs : stnd s) (h0 : s ≠ 0) : wN (n + 1) s = sumD (fun a b => wN n (bst (eF 32) s a b)) := by
  rw [wN_s, if_neg h0]; exact sumD_cg (fun a b a1 _ b1 _ => by rw [bst_36 hs a1 b1])
def seQ (P O : Nat → Nat → Option Nat) (I A : Nat → Nat → Int32) (J : Nat → Nat → Int64) (pl : List Nat) (s : Nat) : Option Value → HS → List Nat → Prop := fun r σ' pl' => r = none ∧ ∃ P' O' I' J', σ' = mC P' O' I' A J' ∧ frP P P' ∧ frK I I' ∧ clC P' O' pl' ∧ shO O' pl' ∧ (∀ q, q ∈ pl → q ∈ pl') ∧ (∀ q, q ∈ pl' → q ∈ pl ∨ 1000 ≤ q) ∧ (∀ q, q ≠ 117 → O' q = O q) ∧ (∀ i, i ≠ rkN s / 64 → O' 117 i = O 117 i) ∧ O' 117 (rkN s / 64) = some (1000 + 2 * (rkN s / 64)) ∧ (∀ q, q ≠ 147 → q ≠ 124 → q ≠ 1001 + 2 * (rkN s / 64) → J' q = J q) ∧ (∀ i, i < 18 * (rkN s % 64) ∨ 18 * (rkN s % 64) + 18 ≤ i → J' (1001 + 2 * (rkN s / 64)) i = if O 117 (rkN s / 64) = none then 0 else J (1001 + 2 * (rkN s / 64)) i) ∧ dnC O' J' s

theorem r_8_settle_0 {X : Ctx} {mc ms k1 k2 : Nat} (F : Fx X cX8_settle RX8 4 15 mc ms) (hk1 : k1 ≤ mc) (hk2 : k2 ≤ ms) {P O : Nat → Nat → Option Nat} (hP : laP P) {I A : Nat → Nat → Int32} {J : Nat → Nat → Int64} {pl : List Nat} (hB : inB pl) {x1 : Int32}
    (e_1 : WA X (mC P O I A J) pl k1 k2 5 [(0, .ref 116), (1, .int x1)] [.long 0, .ref 146]) :
    WA X (mC P O I A J) pl k1 k2 0 [(0, .ref 116), (1, .int x1)] [] := by
  refine a_aload_n F 0 dX8_settle_0 rfl rfl ?_
  refine a_getr (b := 146) F fl_8_35 rfl (hB _ (by decide)) rfl ((hP 116 5 (by decide)).trans rfl) dX8_settle_1 ?_
  refine a_lconst (v := 0) F dX8_settle_4 (by decide) ?_
  exact e_1

theorem r_8_settle_27 {X : Ctx} {mc ms k1 k2 : Nat} (F : Fx X cX8_settle RX8 4 15 mc ms) (hk1 : k1 ≤ mc) (hk2 : k2 ≤ ms) {P O : Nat → Nat → Option Nat} (hP : laP P) {I A : Nat → Nat → Int32} {J : Nat → Nat → Int64} {pl : List Nat} (hB : inB pl) {x1 : Int32}
    (e_1 : WA X (mC P O I A J) pl k1 k2 112 [(0, .ref 116), (1, .int x1)] []) :
    WA X (mC P O I A J) pl k1 k2 27 [(0, .ref 116), (1, .int x1)] [] := by
  refine a_goto (tgt := 112) F dX8_settle_27 (by decide) ?_
  exact e_1

theorem r_8_settle_38 {X : Ctx} {mc ms k1 k2 : Nat} (F : Fx X cX8_settle RX8 4 15 mc ms) (hk1 : k1 ≤ mc) (hk2 : k2 ≤ ms) {P O : Nat → Nat → Option Nat} (hP : laP P) {I A : Nat → Nat → Int32} {J : Nat → Nat → Int64} {pl : List Nat} (hB : inB pl) {x1 : Int32}
    (e_1 : WA X (mC P O I A J) pl k1 k2 40 [(0, .ref 116), (1, .int x1), (2, .int 1)] []) :
    WA X (mC P O I A J) pl k1 k2 38 [(0, .ref 116), (1, .int x1)] [] := by
  refine a_iconst (v := 1) F dX8_settle_38 (by decide) ?_
  refine a_istore_n F dX8_settle_39 rfl (by decide) rfl ?_
  refine a_sub [1, 2, 0] rfl ?_
  exact e_1

theorem r_8_settle_40 {X : Ctx} {mc ms k1 k2 : Nat} (F : Fx X cX8_settle RX8 4 15 mc ms) (hk1 : k1 ≤ mc) (hk2 : k2 ≤ ms) {P O : Nat → Nat → Option Nat} (hP : laP P) {I A : Nat → Nat → Int32} {J : Nat → Nat → Int64} {pl : List Nat} (hB : inB pl) {x1 x2 : Int32}
    (e_1 : (6 < x2) → WA X (mC P O I A J) pl k1 k2 93 [(0, .ref 116), (1, .int x1), (2, .int x2)] [.int 36, .ref 146])
    (e_2 : (¬ (6 < x2)) → WA X (mC P O I A J) pl k1 k2 48 [(0, .ref 116), (1, .int x1), (2, .int x2), (3, .int x2)] []) :
    WA X (mC P O I A J) pl k1 k2 40 [(0, .ref 116), (1, .int x1), (2, .int x2)] [] := by
  refine a_iload_n F 2 dX8_settle_40 rfl rfl ?_
  refine a_bipush (v := 6) F dX8_settle_41 (by decide) ?_
  refine a_icmp_gt (tgt := 87) F dX8_settle_43 (by decide) (fun (c_1 : 6 < x2) => ?_) (fun (c_1 : ¬ (6 < x2)) => ?_)
  · refine a_aload_n F 0 dX8_settle_87 rfl rfl ?_
    refine a_getr (b := 146) F fl_8_35 rfl (hB _ (by decide)) rfl ((hP 116 5 (by decide)).trans rfl) dX8_settle_88 ?_
    refine a_bipush (v := 36) F dX8_settle_91 (by decide) ?_
    exact e_1 c_1
  · refine a_iload_n F 2 dX8_settle_46 rfl rfl ?_
    refine a_istore_n F dX8_settle_47 rfl (by decide) rfl ?_
    refine a_sub [1, 2, 3, 0] rfl ?_
    exact e_2 c_1

theorem r_8_settle_48 {X : Ctx} {mc ms k1 k2 : Nat} (F : Fx X cX8_settle RX8 4 15 mc ms) (hk1 : k1 ≤ mc) (hk2 : k2 ≤ ms) {P O : Nat → Nat → Option Nat} (hP : laP P) {I A : Nat → Nat → Int32} {J : Nat → Nat → Int64} {pl : List Nat} (hB : inB pl) {x1 x2 x3 : Int32}
    (e_1 : (6 < x3) → WA X (mC P O I A J) pl k1 k2 40 [(0, .ref 116), (1, .int x1), (2, .int (x2 + 1))] [])
    (e_2 : (¬ (6 < x3)) → WA X (mC P O I A J) pl k1 k2 59 [(0, .ref 116), (1, .int x1), (2, .int x2), (3, .int x3)] [.int x3, .int x2, .int x1, .ref 116, .ref 116]) :
    WA X (mC P O I A J) pl k1 k2 48 [(0, .ref 116), (1, .int x1), (2, .int x2), (3, .int x3)] [] := by
  refine a_iload_n F 3 dX8_settle_48 rfl rfl ?_
  refine a_bipush (v := 6) F dX8_settle_49 (by decide) ?_
  refine a_icmp_gt (tgt := 81) F dX8_settle_51 (by decide) (fun (c_2 : 6 < x3) => ?_) (fun (c_2 : ¬ (6 < x3)) => ?_)
  · refine a_iinc (v := x2 + 1) F 2 dX8_settle_81 rfl rfl (by decide) rfl ?_
    refine a_goto (tgt := 40) F dX8_settle_84 (by decide) ?_
    refine a_sub [1, 2, 0] rfl ?_
    exact e_1 c_2
  · refine a_aload_n F 0 dX8_settle_54 rfl rfl ?_
    refine a_aload_n F 0 dX8_settle_55 rfl rfl ?_
    refine a_iload_n F 1 dX8_settle_56 rfl rfl ?_
    refine a_iload_n F 2 dX8_settle_57 rfl rfl ?_
    refine a_iload_n F 3 dX8_settle_58 rfl rfl ?_
    exact e_2 c_2

theorem r_8_settle_75 {X : Ctx} {mc ms k1 k2 : Nat} (F : Fx X cX8_settle RX8 4 15 mc ms) (hk1 : k1 ≤ mc) (hk2 : k2 ≤ ms) {P O : Nat → Nat → Option Nat} (hP : laP P) {I A : Nat → Nat → Int32} {J : Nat → Nat → Int64} {pl : List Nat} (hB : inB pl) {x1 x2 x3 : Int32}
    (e_1 : WA X (mC P O I A J) pl k1 k2 48 [(0, .ref 116), (1, .int x1), (2, .int x2), (3, .int (x3 + 1))] []) :
    WA X (mC P O I A J) pl k1 k2 75 [(0, .ref 116), (1, .int x1), (2, .int x2), (3, .int x3)] [] := by
  refine a_iinc (v := x3 + 1) F 3 dX8_settle_75 rfl rfl (by decide) rfl ?_
  refine a_goto (tgt := 48) F dX8_settle_78 (by decide) ?_
  refine a_sub [1, 2, 3, 0] rfl ?_
  exact e_1

theorem r_8_settle_96 {X : Ctx} {mc ms k1 k2 : Nat} (F : Fx X cX8_settle RX8 4 15 mc ms) (hk1 : k1 ≤ mc) (hk2 : k2 ≤ ms) {P O : Nat → Nat → Option Nat} (hP : laP P) {I A : Nat → Nat → Int32} {J : Nat → Nat → Int64} {pl : List Nat} (hB : inB pl) {x1 x2 : Int32}
    (e_1 : WA X (mC P O I A J) pl k1 k2 109 [(0, .ref 116), (1, .int x1), (2, .int x2)] [.int 1, .int 0, .ref 145, .ref 146]) :
    WA X (mC P O I A J) pl k1 k2 96 [(0, .ref 116), (1, .int x1), (2, .int x2)] [] := by
  refine a_aload_n F 0 dX8_settle_96 rfl rfl ?_
  refine a_getr (b := 146) F fl_8_35 rfl (hB _ (by decide)) rfl ((hP 116 5 (by decide)).trans rfl) dX8_settle_97 ?_
  refine a_aload_n F 0 dX8_settle_100 rfl rfl ?_
  refine a_getr (b := 144) F fl_8_31 rfl (hB _ (by decide)) rfl ((hP 116 4 (by decide)).trans rfl) dX8_settle_101 ?_
  refine a_getr (b := 145) F fl_8_114 rfl (hB _ (by decide)) rfl ((hP 144 0 (by decide)).trans rfl) dX8_settle_104 ?_
  refine a_iconst (v := 0) F dX8_settle_107 (by decide) ?_
  refine a_iconst (v := 1) F dX8_settle_108 (by decide) ?_
  exact e_1

theorem r_8_settle_112 {X : Ctx} {mc ms k1 k2 : Nat} (F : Fx X cX8_settle RX8 4 15 mc ms) (hk1 : k1 ≤ mc) (hk2 : k2 ≤ ms) {P O : Nat → Nat → Option Nat} (hP : laP P) {I A : Nat → Nat → Int32} {J : Nat → Nat → Int64} {pl : List Nat} (hB : inB pl) {x1 : Int32}
    (e_1 : WA X (mC P O I A J) pl k1 k2 114 [(0, .ref 116), (1, .int x1)] [.int x1, .ref 116]) :
    WA X (mC P O I A J) pl k1 k2 112 [(0, .ref 116), (1, .int x1)] [] := by
  refine a_aload_n F 0 dX8_settle_112 rfl rfl ?_
  refine a_iload_n F 1 dX8_settle_113 rfl rfl ?_
  exact e_1

theorem r_8_settle_8 {X : Ctx} {mc ms k1 k2 : Nat} (F : Fx X cX8_settle RX8 4 15 mc ms) (hk1 : k1 ≤ mc) (hk2 : k2 ≤ ms) {P O : Nat → Nat → Option Nat} (hP : laP P) {I A : Nat → Nat → Int32} {J : Nat → Nat → Int64} {pl : List Nat} (hB : inB pl) {x1 : Int32}
    (o_1 : (¬ x1 = 0) → nC 124 ≤ 5000)
    (e_2 : (¬ x1 = 0) → WA X (mC P O I A (up1 J 124 (fillF (J 124) (nC 124) (fun _ => (0 : Int64))))) pl k1 k2 38 [(0, .ref 116), (1, .int x1)] [])
    (o_3 : (x1 = 0) → 1 + 12 ≤ 13)
    (o_4 : (x1 = 0) → 0 + 12 ≤ 12)
    (e_5 : (x1 = 0) → WA X (mC P O I A (up1 J 124 (va_cpy (J 119) (J 124) 1 0 12))) pl k1 k2 27 [(0, .ref 116), (1, .int x1)] []) :
    WA X (mC P O I A J) pl k1 k2 8 [(0, .ref 116), (1, .int x1)] [] := by
  refine a_iload_n F 1 dX8_settle_8 rfl rfl ?_
  refine a_if_ne (tgt := 30) F dX8_settle_9 (by decide) (fun (c_3 : ¬ x1 = 0) => ?_) (fun (c_3 : x1 = 0) => ?_)
  · refine a_aload_n F 0 dX8_settle_30 rfl rfl ?_
    refine a_getr (b := 124) F fl_8_25 rfl (hB _ (by decide)) rfl ((hP 116 3 (by decide)).trans rfl) dX8_settle_31 ?_
    refine a_lconst (v := 0) F dX8_settle_34 (by decide) ?_
    refine a_callS (As := [.ref 124, .long 0]) (st := []) F (c_J7_fill_d0a16 (xl X) hP I A J hB 124 rfl (hB _ (by decide)) (0 : Int64) (o_1 c_3)) ml_8_98 sm_yJ7_fill_d0a16 (by decide) rfl dX8_settle_35 (by decide) hk1 hk2 (hl_r (hB _ (by decide)) (hl_i hl_nil)) hs_nil ?_
    rintro _ _ _ ⟨rfl, rfl, rfl⟩ _
    show WA X (mC P O I A (up1 J 124 (fillF (J 124) (nC 124) (fun _ => (0 : Int64))))) pl k1 k2 38 [(0, .ref 116), (1, .int x1)] []
    exact e_2 c_3
  · refine a_aload_n F 0 dX8_settle_12 rfl rfl ?_
    refine a_getr (b := 119) F fl_8_21 rfl (hB _ (by decide)) rfl ((hP 116 2 (by decide)).trans rfl) dX8_settle_13 ?_
    refine a_iconst (v := 1) F dX8_settle_16 (by decide) ?_
    refine a_aload_n F 0 dX8_settle_17 rfl rfl ?_
    refine a_getr (b := 124) F fl_8_25 rfl (hB _ (by decide)) rfl ((hP 116 3 (by decide)).trans rfl) dX8_settle_18 ?_
    refine a_iconst (v := 0) F dX8_settle_21 (by decide) ?_
    refine a_bipush (v := 12) F dX8_settle_22 (by decide) ?_
    refine a_cpyl F cp_8_92 (hB _ (by decide)) (hB _ (by decide)) rfl rfl (by decide) (by decide) (by decide) (o_3 c_3) (o_4 c_3) (by decide) (by decide) dX8_settle_24 ?_
    exact e_5 c_3

theorem r_8_settle_62 {X : Ctx} {mc ms k1 k2 : Nat} (F : Fx X cX8_settle RX8 4 15 mc ms) (hk1 : k1 ≤ mc) (hk2 : k2 ≤ ms) {P O : Nat → Nat → Option Nat} (hP : laP P) {I A : Nat → Nat → Int32} {J : Nat → Nat → Int64} {pl : List Nat} (hB : inB pl) {x1 x2 x3 x9 : Int32}
    (e_1 : (¬ x2 = x3) → WA X (mC P O I A J) pl k1 k2 72 [(0, .ref 116), (1, .int x1), (2, .int x2), (3, .int x3)] [.int 2, .int x9, .ref 116])
    (e_2 : (x2 = x3) → WA X (mC P O I A J) pl k1 k2 72 [(0, .ref 116), (1, .int x1), (2, .int x2), (3, .int x3)] [.int 1, .int x9, .ref 116]) :
    WA X (mC P O I A J) pl k1 k2 62 [(0, .ref 116), (1, .int x1), (2, .int x2), (3, .int x3)] [.int x9, .ref 116] := by
  refine a_iload_n F 2 dX8_settle_62 rfl rfl ?_
  refine a_iload_n F 3 dX8_settle_63 rfl rfl ?_
  refine a_icmp_ne (tgt := 71) F dX8_settle_64 (by decide) (fun (c_4 : ¬ x2 = x3) => ?_) (fun (c_4 : x2 = x3) => ?_)
  · refine a_iconst (v := 2) F dX8_settle_71 (by decide) ?_
    exact e_1 c_4
  · refine a_iconst (v := 1) F dX8_settle_67 (by decide) ?_
    refine a_goto (tgt := 72) F dX8_settle_68 (by decide) ?_
    exact e_2 c_4

theorem r_8_settle_117 {X : Ctx} {mc ms k1 k2 : Nat} (F : Fx X cX8_settle RX8 4 15 mc ms) (hk1 : k1 ≤ mc) (hk2 : k2 ≤ ms) {Φ : Option Value → HS → List Nat → Prop} (E : Ex X none mc ms Φ) {P O : Nat → Nat → Option Nat} (hP : laP P) {I A : Nat → Nat → Int32} {J : Nat → Nat → Int64} {pl : List Nat} (hB : inB pl) {x1 : Int32}
    (e_1 : Φ none (mC P O I A J) pl) :
    WA X (mC P O I A J) pl k1 k2 117 [(0, .ref 116), (1, .int x1)] [] := by
  exact a_vret F E dX8_settle_117 hk1 hk2 (e_1)

set_option maxRecDepth 100000 in
theorem c_8_settle (l : Launch) {P O : Nat → Nat → Option Nat} (hP : laP P) (I A : Nat → Nat → Int32) (J : Nat → Nat → Int64) {pl : List Nat} (hB : inB pl) (s : Nat) (hF : laF P) (hI : shI I) (hO : shO O pl) (hs : stnd s) (ht : rkT (A 118)) (hC : clC P O pl) (hT : pwT J) (hdn : s ≠ 0 → ∀ a b u, 1 ≤ a → a ≤ 6 → 1 ≤ b → b ≤ 6 → Res s a b u → dnC O J u) : ConS l 15 yX8_settle cX8_settle 4 none [.ref 116, .int (nI s)] (mC P O I A J) pl (2 * freeK O (rkN s / 64)) (1153 * freeK O (rkN s / 64)) (seQ P O I A J pl s) := by
  refine ConS.of (by decide) (Nat.le_of_ble_eq_true rfl) (fun X hX9 hn9 F E S => ?_)
  have hs2 : s < 2 ^ 31 := by have := hs.1; omega
  have cs : nI s = 0 ↔ s = 0 := nI_z hs2
  -- the end
  have fin : ∀ (P1 : Nat → Nat → Option Nat) (I1 : Nat → Nat → Int32) (J1 : Nat → Nat → Int64), frP P P1 → frK I I1 → clC P1 O pl → (∀ q, q ≠ 147 → q ≠ 124 → J1 q = J q) → digW (J1 147) 6 → valW (J1 147) 6 = eF 32 s → (∀ k, k < 12 → J1 124 k = lN (wN (k + 1) s)) → WA X (mC P1 O I1 A J1) pl 0 0 112 [(0, .ref 116), (1, .int (nI s))] [] := by
    intro P1 I1 J1 fp fk c1 j1 j2 j3 j4
    refine r_8_settle_112 F (Nat.zero_le _) (Nat.zero_le _) (fp.la hP) hB ?_
    refine a_callVS (b := 116) (As := [.int (nI s)]) (st := []) (ci := 8) F S (c_8_store (xl X) (fp.la hP) I1 A J1 hB s (fp.lf hF) (fk.sh hI) hO hs ht c1) ml_8_117 im_yX8_store se_yX8_store (by decide) (by decide) rfl (hB _ (by decide)) rfl rfl dX8_settle_114 (by decide) (by omega) (by omega) (hl_r (hB _ (by decide)) (hl_i hl_nil)) hs_nil ?_
    rintro _ _ pl2 ⟨rfl, O', J', rfl, d1, d2, d3, d4, d5, d6, d7, d8, d9, d10, d11⟩ _
    refine r_8_settle_117 F (by omega) (by omega) E (fp.la hP) (fun q h => d3 q (hB q h)) ?_
    refine ⟨rfl, P1, O', I1, J', rfl, fp, fk, d1, d2, d3, d4, d5, d6, d7, fun q h1 h2 h3 => (d8 q h3).trans (j1 q h1 h2), fun i hi => ?_, d7, ?_, ?_, fun n n1 n2 => ?_⟩
    · rw [d11 i hi, j1 _ (by omega) (by omega)]
    · intro k hk; rw [d9 k hk]; exact j2 k hk
    · rw [← j3]; exact vw_cg 6 (fun k hk => d9 k hk)
    · have := d10 (n - 1) (by omega)
      rw [show 6 + (n - 1) = 5 + n by omega, j4 (n - 1) (by omega), show n - 1 + 1 = n by omega] at this
      exact this
  refine r_8_settle_0 F (Nat.zero_le _) (Nat.zero_le _) hP hB ?_
  refine a_callV (b := 146) (As := [.long (lN 0)]) (st := []) (ci := 10) F (c_10_set (xl X) hP I A J hB 146 rfl (hB _ (by decide)) (hB _ (by decide)) 0 (by decide)) ml_8_43 im_yX10_set se_yX10_set (by decide) (by decide) rfl (hB _ (by decide)) rfl rfl dX8_settle_5 (by decide) (by omega) (by omega) (hl_r (hB _ (by decide)) (hl_i hl_nil)) hs_nil ?_
  rintro _ _ _ ⟨rfl, rfl, rfl⟩ _
  have e147 : (146 : Nat) + 1 = 147 := rfl
  refine r_8_settle_8 F (Nat.zero_le _) (Nat.zero_le _) hP hB (fun _ => by decide) (fun z => ?_) (fun _ => by decide) (fun _ => by decide) (fun z => ?_)
  rotate_left
  · have e := cs.mp z
    subst e
    refine r_8_settle_27 F (Nat.zero_le _) (Nat.zero_le _) hP hB ?_
    refine fin P I _ (frP.rf P) (frK.rf I) hC (fun q h1 h2 => by rw [up1_p h2, up1_p h1]) ?_ ?_ (fun k hk => ?_)
    · rw [up1_p (by decide), up1_s]; exact pw_dig
    · rw [up1_p (by decide), up1_s, pw_val 6 (Nat.le_refl _), eF_0]
    · rw [up1_s, wN_00, ← hT.1 (k + 1) (by omega)]
      unfold va_cpy; rw [if_pos (by omega), up1_p (by decide)]; congr 1; omega
  · have s0 : s ≠ 0 := fun y => z (cs.mpr y)
    have hd2 := hdn s0
    obtain ⟨fE, hE⟩ : ∃ f : Nat → Nat → Nat, (fun a b => eF 32 (bst (eF 32) s a b)) = f := ⟨_, rfl⟩
    obtain ⟨fW, hW⟩ : ∃ f : Nat → Nat → Nat → Nat, (fun k a b => wN k (bst (eF 32) s a b)) = f := ⟨_, rfl⟩
    have eE : ∀ a b, eF 32 (bst (eF 32) s a b) = fE a b := fun a b => by rw [← hE]
    have eW : ∀ k a b, wN k (bst (eF 32) s a b) = fW k a b := fun k a b => by rw [← hW]
    have DE : psS fE 7 7 = sumD (fun a b => eF 32 (bst (eF 32) s a b)) := by rw [hE]; exact ps_D fE (fun a b a1 _ b1 _ => by rw [← eE, ← eE, bst_sym (eF 32) a1 b1 hs])
    have DW : ∀ k, psS (fW k) 7 7 = wN (k + 1) s := fun k => by
      rw [ps_D (fW k) (fun a b a1 _ b1 _ => by rw [← eW, ← eW, bst_sym (eF 32) a1 b1 hs]), wN_b k s hs s0]; exact congrArg sumD (by rw [← hW])
    have bE := sE_b hs
    rw [← DE] at bE
    have E2 : psS fE 7 7 / 36 + 36 ^ 32 = eF 32 s := by rw [DE]; exact (eF_eq 32 hs s0).symm
    have lp : ∀ m a b (P1 : Nat → Nat → Option Nat) (I1 : Nat → Nat → Int32) (J1 : Nat → Nat → Int64), 8 * a + b + m = 63 → 1 ≤ a → a ≤ b → b ≤ 7 → a ≤ 7 → frP P P1 → frK I I1 → clC P1 O pl → (∀ q, q ≠ 147 → q ≠ 124 → J1 q = J q) → digW (J1 147) 6 → valW (J1 147) 6 = psS fE a b % 2 ^ 186 → (∀ k, k < 12 → J1 124 k = lN (psS (fW k) a b)) → (a ≤ 6 → WA X (mC P1 O I1 A J1) pl 0 0 48 [(0, .ref 116), (1, .int (nI s)), (2, .int (nI a)), (3, .int (nI b))] []) ∧ (b = a → WA X (mC P1 O I1 A J1) pl 0 0 40 [(0, .ref 116), (1, .int (nI s)), (2, .int (nI a))] []) := by
      intro m
      induction m using Nat.strongRecOn with
      | ind m ih =>
      have ih' : ∀ m' a b (P1 : Nat → Nat → Option Nat) (I1 : Nat → Nat → Int32) (J1 : Nat → Nat → Int64), 63 - (8 * a + b) = m' → m' < m → 1 ≤ a → a ≤ b → b ≤ 7 → a ≤ 7 → frP P P1 → frK I I1 → clC P1 O pl → (∀ q, q ≠ 147 → q ≠ 124 → J1 q = J q) → digW (J1 147) 6 → valW (J1 147) 6 = psS fE a b % 2 ^ 186 → (∀ k, k < 12 → J1 124 k = lN (psS (fW k) a b)) → (a ≤ 6 → WA X (mC P1 O I1 A J1) pl 0 0 48 [(0, .ref 116), (1, .int (nI s)), (2, .int (nI a)), (3, .int (nI b))] []) ∧ (b = a → WA X (mC P1 O I1 A J1) pl 0 0 40 [(0, .ref 116), (1, .int (nI s)), (2, .int (nI a))] []) := fun m' a b P1 I1 J1 e lt a1 ab b7 a7 => ih m' lt a b P1 I1 J1 (by omega) a1 ab b7 a7
      by_cases m0 : m = 0
      · subst m0
        intro a b P1 I1 J1 hm a1 ab b7 a7 fp fk c1 j1 j2 j3 j4
        obtain rfl : a = 7 := by omega
        obtain rfl : b = 7 := by omega
        refine ⟨fun z => by omega, fun _ => ?_⟩
        rw [Nat.mod_eq_of_lt bE] at j3
        refine r_8_settle_40 F (Nat.zero_le _) (Nat.zero_le _) (fp.la hP) hB (fun _ => ?_) (fun z => absurd (by decide) z)
        refine a_callV (b := 146) (As := [.int (nI 36)]) (st := []) (ci := 10) F (c_10_divide (xl X) (fp.la hP) I1 A J1 hB 146 rfl (hB _ (by decide)) (hB _ (by decide)) 36 j2 (by decide) (by decide)) ml_8_111 im_yX10_divide se_yX10_divide (by decide) (by decide) rfl (hB _ (by decide)) rfl rfl dX8_settle_93 (by decide) (by omega) (by omega) (hl_r (hB _ (by decide)) (hl_i (hl_i hl_nil))) hs_nil ?_
        rintro _ _ _ ⟨rfl, rfl, rfl⟩ _
        rw [e147, j3]
        refine r_8_settle_96 F (Nat.zero_le _) (Nat.zero_le _) (fp.la hP) hB ?_
        have e0 : (fun k => J 145 (0 + k)) = J 145 := funext (fun k => by rw [Nat.zero_add])
        have e5 : (up1 J1 147 (putW (J1 147) 6 (psS fE 7 7 / 36))) 145 = J 145 := by rw [up1_p (by decide)]; exact j1 145 (by decide) (by decide)
        have bd : psS fE 7 7 / 36 < 2 ^ 186 := Nat.lt_of_le_of_lt (Nat.div_le_self _ _) bE
        refine a_callV (b := 146) (As := [.ref 145, .int (nI 0), .int (nI 1)]) (st := []) (ci := 10) F (c_10_add (xl X) (fp.la hP) I1 A (up1 J1 147 (putW (J1 147) 6 (psS fE 7 7 / 36))) hB 146 rfl (hB _ (by decide)) (hB _ (by decide)) 145 rfl (hB _ (by decide)) 0 1 (by decide) (by decide) (by decide) (by decide) (by rw [up1_s]; exact pw_dig) (by rw [e5, e0]; exact hT.2.1)) ml_8_88 im_yX10_add se_yX10_add (by decide) (by decide) rfl (hB _ (by decide)) rfl rfl dX8_settle_109 (by decide) (by omega) (by omega) (hl_r (hB _ (by decide)) (hl_i (hl_i hl_nil))) hs_nil ?_
        rintro _ _ _ ⟨rfl, rfl, rfl⟩ _
        rw [e147, up1_up1, up1_s, e5, e0, hT.2.2, pw_val 6 (Nat.le_refl _), Nat.mod_eq_of_lt bd, Nat.mul_one, E2]
        refine a_sub [0, 1] rfl ?_
        refine fin P1 I1 _ fp fk c1 (fun q h1 h2 => by rw [up1_p h1]; exact j1 q h1 h2) ?_ ?_ (fun k hk => ?_)
        · rw [up1_s]; exact pw_dig
        · rw [up1_s, pw_val 6 (Nat.le_refl _)]; exact Nat.mod_eq_of_lt (eF_b hs)
        · rw [up1_p (by decide), j4 k hk, DW]
      · intro a b P1 I1 J1 hm a1 ab b7 a7 fp fk c1 j1 j2 j3 j4
        have inn : a ≤ 6 → WA X (mC P1 O I1 A J1) pl 0 0 48 [(0, .ref 116), (1, .int (nI s)), (2, .int (nI a)), (3, .int (nI b))] [] := fun a6 => by
          by_cases b6 : b = 7
          · subst b6
            have lt : (6 : Int32) < nI 7 := by decide
            refine r_8_settle_48 F (Nat.zero_le _) (Nat.zero_le _) (fp.la hP) hB (fun _ => ?_) (fun z => absurd lt z)
            rw [nI_1]
            refine (ih' _ (a + 1) (a + 1) P1 I1 J1 rfl (by omega) (by omega) (Nat.le_refl _) (by omega) (by omega) fp fk c1 j1 j2 ?_ (fun k hk => ?_)).2 rfl
            · rw [ps_a fE a1]; exact j3
            · rw [ps_a (fW k) a1]; exact j4 k hk
          · have nlt : ¬ (6 : Int32) < nI b := fun z => by have := (nI_gtn 6 (by omega) (by omega)).mp z; omega
            refine r_8_settle_48 F (Nat.zero_le _) (Nat.zero_le _) (fp.la hP) hB (fun z => absurd z nlt) (fun _ => ?_)
            have dj : ∀ q, 1000 ≤ q → J1 q = J q := fun q h => j1 q (by omega) (by omega)
            refine a_callV (b := 116) (As := [.int (nI s), .int (nI a), .int (nI b)]) (st := [.ref 116]) (ci := 8) F (c_8_pick (xl X) (fp.la hP) I1 A J1 hB s a b hO hs a1 a6 (by omega) (by omega) ht c1 (fun u hu => dn_cg dj (hd2 a b u a1 a6 (by omega) (by omega) hu))) ml_8_104 im_yX8_pick se_yX8_pick (by decide) (by decide) rfl (hB _ (by decide)) rfl rfl dX8_settle_59 (Nat.le_of_ble_eq_true rfl) (by omega) (by omega) (hl_r (hB _ (by decide)) (hl_i (hl_i (hl_i hl_nil)))) (hs_r (hB _ (by decide)) hs_nil) ?_
            rintro _ _ _ ⟨rfl, rfl, P2, I2, rfl, fp2, fk2, c2⟩ _
            have hb := (bst_is (eF 32) (a := a) (b := b) a1 (by omega) hs).1
            have hbs := (Res_st a1 (by omega) hs hb).1
            have hbd : dnC O J1 (bst (eF 32) s a b) := dn_cg dj (hd2 a b _ a1 a6 (by omega) (by omega) hb)
            have cnt : WA X (mC P2 O I2 A J1) pl 0 0 72 [(0, .ref 116), (1, .int (nI s)), (2, .int (nI a)), (3, .int (nI b))] [.int (nI (dm a b)), .int (nI (bst (eF 32) s a b)), .ref 116] := by
              refine a_callV (b := 116) (As := [.int (nI (bst (eF 32) s a b)), .int (nI (dm a b))]) (st := []) (ci := 8) F (c_8_count (xl X) ((fp.tr fp2).la hP) I2 A J1 hB (bst (eF 32) s a b) (dm a b) hO hbs (by unfold dm; split <;> omega) ht hbd j2) ml_8_107 im_yX8_count se_yX8_count (by decide) (by decide) rfl (hB _ (by decide)) rfl rfl dX8_settle_72 (by decide) (by omega) (by omega) (hl_r (hB _ (by decide)) (hl_i (hl_i (hl_i hl_nil)))) hs_nil ?_
              rintro _ _ _ ⟨rfl, rfl, J2, rfl, k1, k2, k3⟩ _
              refine r_8_settle_75 F (Nat.zero_le _) (Nat.zero_le _) ((fp.tr fp2).la hP) hB ?_
              rw [nI_1]
              refine (ih' _ a (b + 1) P2 I2 J2 rfl (by omega) (by omega) (by omega) (by omega) a7 (fp.tr fp2) (fk.tr fk2) c2 (fun q h1 h2 => (k1 q h1 h2).trans (j1 q h1 h2)) ?_ ?_ (fun k hk => ?_)).1 a6
              · rw [k2]; exact pw_dig
              · rw [k2, pw_val 6 (Nat.le_refl _), j3, eE, Nat.mod_add_mod, ps_b fE ab, Nat.mul_comm]
              · rw [k3 k hk, j4 k hk, lN_p]; show lN (psS (fW k) a b + dm a b * wN k (bst (eF 32) s a b)) = _; rw [eW, ps_b (fW k) ab]
            have cab : nI a = nI b ↔ a = b := nI_eq (by omega) (by omega)
            refine r_8_settle_62 F (Nat.zero_le _) (Nat.zero_le _) ((fp.tr fp2).la hP) hB (fun z => ?_) (fun z => ?_)
            · have e : dm a b = 2 := by unfold dm; rw [if_neg (fun y => z (cab.mpr y))]
              rw [e] at cnt; exact cnt
            · have e : dm a b = 1 := by unfold dm; rw [if_pos (cab.mp z)]
              rw [e] at cnt; exact cnt
        refine ⟨inn, fun e => ?_⟩
        subst e
        by_cases a6 : b = 7
        · omega
        · have nlt : ¬ (6 : Int32) < nI b := fun z => by have := (nI_gtn 6 (by omega) (by omega)).mp z; omega
          exact r_8_settle_40 F (Nat.zero_le _) (Nat.zero_le _) (fp.la hP) hB (fun z => absurd z nlt) (fun _ => inn (by omega))
    refine r_8_settle_38 F (Nat.zero_le _) (Nat.zero_le _) hP hB ?_
    refine (lp 54 1 1 P I _ rfl (Nat.le_refl _) (Nat.le_refl _) (by omega) (by omega) (frP.rf P) (frK.rf I) hC (fun q h1 h2 => by rw [up1_p h2, up1_p h1]) ?_ ?_ (fun k hk => ?_)).2 rfl
    · rw [up1_p (by decide), up1_s]; exact pw_dig
    · rw [up1_p (by decide), up1_s, pw_val 6 (Nat.le_refl _), ps_1]
    · rw [up1_s, ps_1]; unfold fillF; rw [if_pos (show k < nC 124 by exact hk)]; rfl
