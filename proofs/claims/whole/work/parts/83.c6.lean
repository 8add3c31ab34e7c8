def atI (r : Nat → Int32) (sz x : Int32) : Int32 := if x < 0 then -1 else if x < sz then r x.toNatClampNeg else -1
theorem atI_in {r : Nat → Int32} {sz k : Nat} (h : k < sz) (hs : sz ≤ 400) : atI r (nI sz) (nI k) = r k := by
  unfold atI
  rw [if_neg (fun z => by have := (nI_ltn 0 (show k < 2 ^ 31 by omega) (by omega)).mp z; omega), if_pos ((nI_ltI (by omega) (by omega)).mpr h), nI_clamp (by omega)]
def szO (x : Int32) : Prop := x ≤ 400

theorem r_1_atI_0 {X : Ctx} (F : Fx X cX1_at RX1 2 1 0 0) {Φ : Option Value → HS → List Nat → Prop} (E : Ex X (some .int) 0 0 Φ) {P O : Nat → Nat → Option Nat} (hP : laP P) {I A : Nat → Nat → Int32} {J : Nat → Nat → Int64} {pl : List Nat} (hB : inB pl) {x1 : Int32} {p : Nat} (hk_p : kC p = 1) (hp_p : p ∈ pl) (hq_p : p + 1 ∈ pl)
    (e_1 : (x1 < 0) → Φ (some (.int (-1))) (mC P O I A J) pl)
    (o_2 : (¬ (x1 < 0)) → (x1 < (I p 1)) → vp_in x1 400)
    (e_3 : (¬ (x1 < 0)) → (x1 < (I p 1)) → Φ (some (.int (A (p + 1) x1.toNatClampNeg))) (mC P O I A J) pl)
    (e_4 : (¬ (x1 < 0)) → (¬ (x1 < (I p 1))) → Φ (some (.int (-1))) (mC P O I A J) pl) :
    WA X (mC P O I A J) pl 0 0 0 [(0, .ref p), (1, .int x1)] [] := by
  refine a_iload_n F 1 dX1_at_0 rfl rfl ?_
  refine a_if_lt (tgt := 12) F dX1_at_1 (by decide) (fun (c_1 : x1 < 0) => ?_) (fun (c_1 : ¬ (x1 < 0)) => ?_)
  · refine a_iconst (v := (-1)) F dX1_at_12 (by decide) ?_
    refine a_goto (tgt := 22) F dX1_at_13 (by decide) ?_
    exact a_iret F E dX1_at_22 (Nat.le_refl 0) (Nat.le_refl 0) (e_1 c_1)
  · refine a_iload_n F 1 dX1_at_4 rfl rfl ?_
    refine a_aload_n F 0 dX1_at_5 rfl rfl ?_
    refine a_geti F fl_1_15 rfl (hp_p) hk_p dX1_at_6 ?_
    refine a_icmp_lt (tgt := 16) F dX1_at_9 (by decide) (fun (c_2 : x1 < (I p 1)) => ?_) (fun (c_2 : ¬ (x1 < (I p 1))) => ?_)
    · refine a_aload_n F 0 dX1_at_16 rfl rfl ?_
      refine a_getr (b := (p + 1)) F fl_1_9 rfl (hp_p) hk_p (laP_by hP hk_p) dX1_at_17 ?_
      refine a_iload_n F 1 dX1_at_20 rfl rfl ?_
      refine a_iald F (hq_p) (k_by hk_p).1 (show vp_in _ (nC (p + 1)) from (k_by hk_p).2 ▸ o_2 c_1 c_2) dX1_at_21 ?_
      exact a_iret F E dX1_at_22 (Nat.le_refl 0) (Nat.le_refl 0) (e_3 c_1 c_2)
    · refine a_iconst (v := (-1)) F dX1_at_12 (by decide) ?_
      refine a_goto (tgt := 22) F dX1_at_13 (by decide) ?_
      exact a_iret F E dX1_at_22 (Nat.le_refl 0) (Nat.le_refl 0) (e_4 c_1 c_2)

set_option maxRecDepth 10000 in
theorem c_1_atI (l : Launch) {P O : Nat → Nat → Option Nat} (hP : laP P) (I A : Nat → Nat → Int32) (J : Nat → Nat → Int64) {pl : List Nat} (hB : inB pl) (p : Nat) (hk_p : kC p = 1) (hp_p : p ∈ pl) (hq_p : p + 1 ∈ pl) (x : Int32) (hs : szO (I p 1)) : Con l 1 yX1_at cX1_at 2 (some .int) [.ref p, .int x] (mC P O I A J) pl 0 0 (PC (some (.int (atI (A (p + 1)) (I p 1) x))) P O I A J pl) := by
  refine Con.of (by decide) (Nat.le_of_ble_eq_true rfl) (fun X hX9 hn9 F E => ?_)
  refine r_1_atI_0 F E hP hB hk_p hp_p hq_p ?_ ?_ ?_ ?_ <;> (clear F E hn9 hX9; (try clear X); (unfold szO at hs; intros; first | (refine in_i (N := 400) rfl ⟨by grind, by grind⟩) | (unfold atI; refine ⟨?_, rfl, rfl⟩; first | rw [if_pos (by assumption)] | (rw [if_neg (by assumption)]; first | rw [if_pos (by assumption)] | rw [if_neg (by assumption)]))))

theorem r_5_isBlank_0 {X : Ctx} (F : Fx X cX5_isBlank RX5 1 1 0 0) {Φ : Option Value → HS → List Nat → Prop} (E : Ex X (some .boolean) 0 0 Φ) {P O : Nat → Nat → Option Nat} (hP : laP P) {I A : Nat → Nat → Int32} {J : Nat → Nat → Int64} {pl : List Nat} (hB : inB pl) {x0 : Int32}
    (e_1 : (x0 = 32) → Φ (some (.int 1)) (mC P O I A J) pl)
    (e_2 : (¬ (x0 = 32)) → (¬ x0 = 10) → Φ (some (.int 0)) (mC P O I A J) pl)
    (e_3 : (¬ (x0 = 32)) → (x0 = 10) → Φ (some (.int 1)) (mC P O I A J) pl) :
    WA X (mC P O I A J) pl 0 0 0 [(0, .int x0)] [] := by
  refine a_iload_n F 0 dX5_isBlank_0 rfl rfl ?_
  refine a_bipush (v := 32) F dX5_isBlank_1 (by decide) ?_
  refine a_icmp_eq (tgt := 12) F dX5_isBlank_3 (by decide) (fun (c_1 : x0 = 32) => ?_) (fun (c_1 : ¬ (x0 = 32)) => ?_)
  · refine a_iconst (v := 1) F dX5_isBlank_12 (by decide) ?_
    refine a_goto (tgt := 17) F dX5_isBlank_13 (by decide) ?_
    exact a_zret F E (by decide) dX5_isBlank_17 (Nat.le_refl 0) (Nat.le_refl 0) (e_1 c_1)
  · refine a_iload_n F 0 dX5_isBlank_6 rfl rfl ?_
    refine a_bipush (v := 10) F dX5_isBlank_7 (by decide) ?_
    refine a_icmp_ne (tgt := 16) F dX5_isBlank_9 (by decide) (fun (c_2 : ¬ x0 = 10) => ?_) (fun (c_2 : x0 = 10) => ?_)
    · refine a_iconst (v := 0) F dX5_isBlank_16 (by decide) ?_
      exact a_zret F E (by decide) dX5_isBlank_17 (Nat.le_refl 0) (Nat.le_refl 0) (e_2 c_1 c_2)
    · refine a_iconst (v := 1) F dX5_isBlank_12 (by decide) ?_
      refine a_goto (tgt := 17) F dX5_isBlank_13 (by decide) ?_
      exact a_zret F E (by decide) dX5_isBlank_17 (Nat.le_refl 0) (Nat.le_refl 0) (e_3 c_1 c_2)

set_option maxRecDepth 10000 in
theorem c_5_isBlank (l : Launch) {P O : Nat → Nat → Option Nat} (hP : laP P) (I A : Nat → Nat → Int32) (J : Nat → Nat → Int64) {pl : List Nat} (hB : inB pl) (a : Int32) : Con l 1 yX5_isBlank cX5_isBlank 1 (some .boolean) [.int a] (mC P O I A J) pl 0 0 (PC (some (.int (if bBl a = true then 1 else 0))) P O I A J pl) := by
  refine Con.of (by decide) (Nat.le_of_ble_eq_true rfl) (fun X hX9 hn9 F E => ?_)
  refine r_5_isBlank_0 F E hP hB ?_ ?_ ?_ <;> (clear F E hn9 hX9; (try clear X); (rw [show (if bBl a = true then (1 : Int32) else 0) = if a = 32 ∨ a = 10 then 1 else 0 by simp only [bl_iff]]; intros <;> first | (simp_all [PC]; done) | (simp_all [PC]; grind)))

theorem r_5_isDigit_0 {X : Ctx} (F : Fx X cX5_isDigit RX5 1 1 0 0) {Φ : Option Value → HS → List Nat → Prop} (E : Ex X (some .boolean) 0 0 Φ) {P O : Nat → Nat → Option Nat} (hP : laP P) {I A : Nat → Nat → Int32} {J : Nat → Nat → Int64} {pl : List Nat} (hB : inB pl) {x0 : Int32}
    (e_1 : (x0 < 48) → Φ (some (.int 0)) (mC P O I A J) pl)
    (e_2 : (¬ (x0 < 48)) → (57 < x0) → Φ (some (.int 0)) (mC P O I A J) pl)
    (e_3 : (¬ (x0 < 48)) → (¬ (57 < x0)) → Φ (some (.int 1)) (mC P O I A J) pl) :
    WA X (mC P O I A J) pl 0 0 0 [(0, .int x0)] [] := by
  refine a_iload_n F 0 dX5_isDigit_0 rfl rfl ?_
  refine a_bipush (v := 48) F dX5_isDigit_1 (by decide) ?_
  refine a_icmp_lt (tgt := 16) F dX5_isDigit_3 (by decide) (fun (c_1 : x0 < 48) => ?_) (fun (c_1 : ¬ (x0 < 48)) => ?_)
  · refine a_iconst (v := 0) F dX5_isDigit_16 (by decide) ?_
    exact a_zret F E (by decide) dX5_isDigit_17 (Nat.le_refl 0) (Nat.le_refl 0) (e_1 c_1)
  · refine a_iload_n F 0 dX5_isDigit_6 rfl rfl ?_
    refine a_bipush (v := 57) F dX5_isDigit_7 (by decide) ?_
    refine a_icmp_gt (tgt := 16) F dX5_isDigit_9 (by decide) (fun (c_2 : 57 < x0) => ?_) (fun (c_2 : ¬ (57 < x0)) => ?_)
    · refine a_iconst (v := 0) F dX5_isDigit_16 (by decide) ?_
      exact a_zret F E (by decide) dX5_isDigit_17 (Nat.le_refl 0) (Nat.le_refl 0) (e_2 c_1 c_2)
    · refine a_iconst (v := 1) F dX5_isDigit_12 (by decide) ?_
      refine a_goto (tgt := 17) F dX5_isDigit_13 (by decide) ?_
      exact a_zret F E (by decide) dX5_isDigit_17 (Nat.le_refl 0) (Nat.le_refl 0) (e_3 c_1 c_2)

set_option maxRecDepth 10000 in
theorem c_5_isDigit (l : Launch) {P O : Nat → Nat → Option Nat} (hP : laP P) (I A : Nat → Nat → Int32) (J : Nat → Nat → Int64) {pl : List Nat} (hB : inB pl) (a : Int32) : Con l 1 yX5_isDigit cX5_isDigit 1 (some .boolean) [.int a] (mC P O I A J) pl 0 0 (PC (some (.int (if bDg a = true then 1 else 0))) P O I A J pl) := by
  refine Con.of (by decide) (Nat.le_of_ble_eq_true rfl) (fun X hX9 hn9 F E => ?_)
  refine r_5_isDigit_0 F E hP hB ?_ ?_ ?_ <;> (clear F E hn9 hX9; (try clear X); (rw [show (if bDg a = true then (1 : Int32) else 0) = if 48 ≤ a ∧ a ≤ 57 then 1 else 0 by simp only [dg_iff]]; intros <;> first | (simp_all [PC]; done) | (simp_all [PC]; grind)))

theorem r_5_isLetter_0 {X : Ctx} (F : Fx X cX5_isLetter RX5 1 1 0 0) {Φ : Option Value → HS → List Nat → Prop} (E : Ex X (some .boolean) 0 0 Φ) {P O : Nat → Nat → Option Nat} (hP : laP P) {I A : Nat → Nat → Int32} {J : Nat → Nat → Int64} {pl : List Nat} (hB : inB pl) {x0 : Int32}
    (e_1 : (x0 < 97) → Φ (some (.int 0)) (mC P O I A J) pl)
    (e_2 : (¬ (x0 < 97)) → (122 < x0) → Φ (some (.int 0)) (mC P O I A J) pl)
    (e_3 : (¬ (x0 < 97)) → (¬ (122 < x0)) → Φ (some (.int 1)) (mC P O I A J) pl) :
    WA X (mC P O I A J) pl 0 0 0 [(0, .int x0)] [] := by
  refine a_iload_n F 0 dX5_isLetter_0 rfl rfl ?_
  refine a_bipush (v := 97) F dX5_isLetter_1 (by decide) ?_
  refine a_icmp_lt (tgt := 16) F dX5_isLetter_3 (by decide) (fun (c_1 : x0 < 97) => ?_) (fun (c_1 : ¬ (x0 < 97)) => ?_)
  · refine a_iconst (v := 0) F dX5_isLetter_16 (by decide) ?_
    exact a_zret F E (by decide) dX5_isLetter_17 (Nat.le_refl 0) (Nat.le_refl 0) (e_1 c_1)
  · refine a_iload_n F 0 dX5_isLetter_6 rfl rfl ?_
    refine a_bipush (v := 122) F dX5_isLetter_7 (by decide) ?_
    refine a_icmp_gt (tgt := 16) F dX5_isLetter_9 (by decide) (fun (c_2 : 122 < x0) => ?_) (fun (c_2 : ¬ (122 < x0)) => ?_)
    · refine a_iconst (v := 0) F dX5_isLetter_16 (by decide) ?_
      exact a_zret F E (by decide) dX5_isLetter_17 (Nat.le_refl 0) (Nat.le_refl 0) (e_2 c_1 c_2)
    · refine a_iconst (v := 1) F dX5_isLetter_12 (by decide) ?_
      refine a_goto (tgt := 17) F dX5_isLetter_13 (by decide) ?_
      exact a_zret F E (by decide) dX5_isLetter_17 (Nat.le_refl 0) (Nat.le_refl 0) (e_3 c_1 c_2)

set_option maxRecDepth 10000 in
theorem c_5_isLetter (l : Launch) {P O : Nat → Nat → Option Nat} (hP : laP P) (I A : Nat → Nat → Int32) (J : Nat → Nat → Int64) {pl : List Nat} (hB : inB pl) (a : Int32) : Con l 1 yX5_isLetter cX5_isLetter 1 (some .boolean) [.int a] (mC P O I A J) pl 0 0 (PC (some (.int (if bLt a = true then 1 else 0))) P O I A J pl) := by
  refine Con.of (by decide) (Nat.le_of_ble_eq_true rfl) (fun X hX9 hn9 F E => ?_)
  refine r_5_isLetter_0 F E hP hB ?_ ?_ ?_ <;> (clear F E hn9 hX9; (try clear X); (rw [show (if bLt a = true then (1 : Int32) else 0) = if 97 ≤ a ∧ a ≤ 122 then 1 else 0 by simp only [lt_iff]]; intros <;> first | (simp_all [PC]; done) | (simp_all [PC]; grind)))
