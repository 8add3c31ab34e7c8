theorem up2_up2 {α : Type} (f : Nat → Nat → α) (p k : Nat) (v w : α) : up2 (up2 f p k v) p k w = up2 f p k w := by
  funext q j; by_cases hq : q = p
  · subst hq; by_cases hj : j = k <;> simp [up2, va_up, hj]
  · simp [up2, hq]
theorem up1_up1 {α : Type} (f : Nat → Nat → α) (p : Nat) (v w : Nat → α) : up1 (up1 f p v) p w = up1 f p w := by
  funext q; by_cases hq : q = p <;> simp [up1, hq]
theorem up1_id {α : Type} (f : Nat → Nat → α) (p : Nat) : up1 f p (f p) = f := by
  funext q; by_cases hq : q = p <;> simp [up1, hq]
def fillF {α : Type} (f : Nat → α) (i : Nat) (g : Nat → α) : Nat → α := fun k => if k < i then g k else f k
theorem fill_0 {α : Type} (f g : Nat → α) : fillF f 0 g = f := by funext k; simp [fillF]
theorem fill_s (f g : Nat → Int32) (i : Nat) : upd (fillF f i g) i (g i) = fillF f (i + 1) g := by
  funext k; simp only [upd, fillF]; by_cases h : k = i
  · subst h; simp
  · rw [if_neg h]; by_cases h2 : k < i
    · rw [if_pos h2, if_pos (by omega)]
    · rw [if_neg h2, if_neg (by omega)]
theorem fill_in {α : Type} {f g : Nat → α} {i k : Nat} (h : k < i) : fillF f i g k = g k := by simp [fillF, h]
theorem fill_out {α : Type} {f g : Nat → α} {i k : Nat} (h : i ≤ k) : fillF f i g k = f k := by simp [fillF]; omega

/-- places of a board: player and point -/
theorem bd_in {a b : Int32} (h1 : 0 ≤ a) (h2 : a ≤ 1) (h3 : 0 ≤ b) (h4 : b ≤ 25) : vp_in (26 * a + b) 52 := by
  rw [vp_in_iff]
  have e : (26 * a + b).toInt = 26 * a.toInt + b.toInt := by
    have h1 := Int32.le_iff_toInt_le.mp h1; have h2 := Int32.le_iff_toInt_le.mp h2; have h3 := Int32.le_iff_toInt_le.mp h3; have h4 := Int32.le_iff_toInt_le.mp h4
    simp at h1 h2 h3 h4
    rw [Int32.toInt_add, Int32.toInt_mul]
    simp only [Int.bmod_def]
    simp
    omega
  have h1 := Int32.le_iff_toInt_le.mp h1; have h2 := Int32.le_iff_toInt_le.mp h2; have h3 := Int32.le_iff_toInt_le.mp h3; have h4 := Int32.le_iff_toInt_le.mp h4
  simp at h1 h2 h3 h4
  omega
theorem in_i {x : Int32} {n : Nat} {N : Int32} (hN : N.toInt = n) (h : 0 ≤ x ∧ x < N) : vp_in x n := by
  rw [vp_in_iff]
  have h1 := Int32.le_iff_toInt_le.mp h.1; have h2 := Int32.lt_iff_toInt_lt.mp h.2
  simp at h1; omega
theorem bd_in2 {a b : Int32} (h1 : 0 ≤ a) (h2 : a ≤ 1) (h3 : 0 ≤ b) (h4 : b ≤ 25) : vp_in (26 * a + b) 52 := in_i (N := 52) rfl (by grind)
theorem bd_in3 {a b d : Int32} (h1 : 0 ≤ a) (h2 : a ≤ 8) (h3 : 0 ≤ b) (h4 : b ≤ 1) (h5 : 0 ≤ d) (h6 : d ≤ 25) : 0 ≤ 52 * a + 26 * b + d ∧ 52 * a + 26 * b + d < 468 := by grind
theorem lit (n : Nat) : (OfNat.ofNat n : Int32) = nI n := rfl
theorem cl_of {x : Int32} {n : Nat} (h : x = nI n) (hn : n < 2 ^ 31) : x.toNatClampNeg = n := by rw [h]; exact nI_clamp hn
theorem in_n {x : Int32} {n N : Nat} (h : x = nI n) (hn : n < N) (hN : N < 2 ^ 31) : vp_in x N := by rw [h]; exact vp_in_nI hn hN
def startB (k : Nat) : Int32 := if k % 26 = 24 then 2 else if k % 26 = 13 ∨ k % 26 = 6 then 5 else if k % 26 = 8 then 3 else 0
theorem rem26 {k : Nat} (h : k < 2 ^ 31) : nI k - nI k / 26 * 26 = nI (k % 26) := pk_rem (d := 26) h (by omega) (by omega)
theorem nI_eqn {k : Nat} (n : Nat) (hk : k < 2 ^ 31) (hn : n < 2 ^ 31) : (nI k = (OfNat.ofNat n : Int32)) ↔ k = n := nI_eq hk hn
theorem nI_gen {k : Nat} (n : Nat) (hk : k < 2 ^ 31) (hn : n < 2 ^ 31) : ((OfNat.ofNat n : Int32) ≤ nI k) ↔ n ≤ k := nI_leI hn hk
theorem nI_len {k : Nat} (n : Nat) (hk : k < 2 ^ 31) (hn : n < 2 ^ 31) : (nI k ≤ (OfNat.ofNat n : Int32)) ↔ k ≤ n := nI_leI hk hn
theorem nI_ltn {k : Nat} (n : Nat) (hk : k < 2 ^ 31) (hn : n < 2 ^ 31) : (nI k < (OfNat.ofNat n : Int32)) ↔ k < n := nI_ltI hk hn
theorem nI_gtn {k : Nat} (n : Nat) (hk : k < 2 ^ 31) (hn : n < 2 ^ 31) : ((OfNat.ofNat n : Int32) < nI k) ↔ n < k := nI_ltI hn hk

theorem r_12_start_0 {X : Ctx} (F : Fx X cX12_start RX12 3 1 0 0) {I A : Nat → Nat → Int32} {J : Nat → Nat → Int64}
    (e_1 : WA X (mS I A J) plM 0 0 2 [(0, .ref 0), (1, .int 0)] []) :
    WA X (mS I A J) plM 0 0 0 [(0, .ref 0)] [] := by
  refine a_iconst (v := 0) F dX12_start_0 (by decide) ?_
  refine a_istore_n F dX12_start_1 rfl (by decide) rfl ?_
  refine a_sub [1, 0] rfl ?_
  exact e_1

theorem r_12_start_2 {X : Ctx} (F : Fx X cX12_start RX12 3 1 0 0) {Φ : Option Value → HS → List Nat → Prop} (E : Ex X none 0 0 Φ) {I A : Nat → Nat → Int32} {J : Nat → Nat → Int64} {x1 : Int32}
    (e_1 : (52 ≤ x1) → Φ none (mS (up2 (up2 I 0 2 0) 0 16 0) A J) plM)
    (o_2 : (¬ (52 ≤ x1)) → vp_in x1 52)
    (e_3 : (¬ (52 ≤ x1)) → WA X (mS I (up1 A 1 (upd (A 1) x1.toNatClampNeg (if (x1 - x1 / 26 * 26) = 24 then 2 else (if (x1 - x1 / 26 * 26) = 13 then 5 else (if (x1 - x1 / 26 * 26) = 6 then 5 else (if (x1 - x1 / 26 * 26) = 8 then 3 else 0)))))) J) plM 0 0 2 [(0, .ref 0), (1, .int (x1 + 1))] []) :
    WA X (mS I A J) plM 0 0 2 [(0, .ref 0), (1, .int x1)] [] := by
  refine a_iload_n F 1 dX12_start_2 rfl rfl ?_
  refine a_bipush (v := 52) F dX12_start_3 (by decide) ?_
  refine a_icmp_ge (tgt := 62) F dX12_start_5 (by decide) (fun (c_1 : 52 ≤ x1) => ?_) (fun (c_1 : ¬ (52 ≤ x1)) => ?_)
  · refine a_aload_n F 0 dX12_start_62 rfl rfl ?_
    refine a_iconst (v := 0) F dX12_start_63 (by decide) ?_
    refine a_puti F fl_12_149 rfl rfl rfl rfl (by decide) rfl dX12_start_64 ?_
    refine a_aload_n F 0 dX12_start_67 rfl rfl ?_
    refine a_iconst (v := 0) F dX12_start_68 (by decide) ?_
    refine a_puti F fl_12_152 rfl rfl rfl rfl (by decide) rfl dX12_start_69 ?_
    exact a_vret F E dX12_start_72 (Nat.le_refl 0) (Nat.le_refl 0) (e_1 c_1)
  · refine a_iload_n F 1 dX12_start_8 rfl rfl ?_
    refine a_bipush (v := 26) F dX12_start_9 (by decide) ?_
    refine a_irem F dX12_start_11 (by decide) ?_
    refine a_istore_n F dX12_start_12 rfl (by decide) rfl ?_
    refine a_aload_n F 1 dX12_start_13 rfl rfl ?_
    refine a_getr (b := 1) F fl_12_13 rfl (by decide) rfl rfl dX12_start_14 ?_
    refine a_iload_n F 2 dX12_start_17 rfl rfl ?_
    refine a_iload_n F 0 dX12_start_18 rfl rfl ?_
    refine a_bipush (v := 24) F dX12_start_19 (by decide) ?_
    suffices k : ∀ z9 : Int32, z9 = (if (x1 - x1 / 26 * 26) = 24 then 2 else (if (x1 - x1 / 26 * 26) = 13 then 5 else (if (x1 - x1 / 26 * 26) = 6 then 5 else (if (x1 - x1 / 26 * 26) = 8 then 3 else 0)))) → WA X (mS I A J) plM 0 0 55 [(2, .int (x1 - x1 / 26 * 26)), (0, .ref 0), (1, .int x1)] [.int z9, .int x1, .ref 1] by
      refine a_icmp_ne (tgt := 28) F dX12_start_21 (by decide) (fun (c_2 : ¬ (x1 - x1 / 26 * 26) = 24) => ?_) (fun (c_2 : (x1 - x1 / 26 * 26) = 24) => ?_)
      · refine a_iload_n F 0 dX12_start_28 rfl rfl ?_
        refine a_bipush (v := 13) F dX12_start_29 (by decide) ?_
        refine a_icmp_eq (tgt := 40) F dX12_start_31 (by decide) (fun (c_3 : (x1 - x1 / 26 * 26) = 13) => ?_) (fun (c_3 : ¬ ((x1 - x1 / 26 * 26) = 13)) => ?_)
        · refine a_iconst (v := 5) F dX12_start_40 (by decide) ?_
          refine a_goto (tgt := 55) F dX12_start_41 (by decide) ?_
          exact k _ (by rw [if_neg c_2, if_pos c_3] <;> rfl)
        · refine a_iload_n F 0 dX12_start_34 rfl rfl ?_
          refine a_bipush (v := 6) F dX12_start_35 (by decide) ?_
          refine a_icmp_ne (tgt := 44) F dX12_start_37 (by decide) (fun (c_4 : ¬ (x1 - x1 / 26 * 26) = 6) => ?_) (fun (c_4 : (x1 - x1 / 26 * 26) = 6) => ?_)
          · refine a_iload_n F 0 dX12_start_44 rfl rfl ?_
            refine a_bipush (v := 8) F dX12_start_45 (by decide) ?_
            refine a_icmp_ne (tgt := 54) F dX12_start_47 (by decide) (fun (c_5 : ¬ (x1 - x1 / 26 * 26) = 8) => ?_) (fun (c_5 : (x1 - x1 / 26 * 26) = 8) => ?_)
            · refine a_iconst (v := 0) F dX12_start_54 (by decide) ?_
              exact k _ (by rw [if_neg c_2, if_neg c_3, if_neg c_4, if_neg c_5] <;> rfl)
            · refine a_iconst (v := 3) F dX12_start_50 (by decide) ?_
              refine a_goto (tgt := 55) F dX12_start_51 (by decide) ?_
              exact k _ (by rw [if_neg c_2, if_neg c_3, if_neg c_4, if_pos c_5] <;> rfl)
          · refine a_iconst (v := 5) F dX12_start_40 (by decide) ?_
            refine a_goto (tgt := 55) F dX12_start_41 (by decide) ?_
            exact k _ (by rw [if_neg c_2, if_neg c_3, if_pos c_4] <;> rfl)
      · refine a_iconst (v := 2) F dX12_start_24 (by decide) ?_
        refine a_goto (tgt := 55) F dX12_start_25 (by decide) ?_
        exact k _ (by rw [if_pos c_2] <;> rfl)
    rintro _ rfl
    refine a_iast F (by decide) rfl (o_2 c_1) dX12_start_55 ?_
    refine a_iinc (v := x1 + 1) F 2 dX12_start_56 rfl rfl (by decide) rfl ?_
    refine a_goto (tgt := 2) F dX12_start_59 (by decide) ?_
    refine a_sub [2, 0] rfl ?_
    exact e_3 c_1

set_option maxRecDepth 10000 in
theorem c_start (l : Launch) (I A : Nat → Nat → Int32) (J : Nat → Nat → Int64) : Con l 1 yX12_start cX12_start 3 none [.ref 0] (mS I A J) plM 0 0 (PM none (up2 (up2 I 0 2 0) 0 16 0) (up1 A 1 (fillF (A 1) 52 startB)) J) := by
  refine Con.of (by decide) (Nat.le_of_ble_eq_true rfl) (fun X hX9 hn9 F E => ?_)
  refine r_12_start_0 F ?_
  have loop : ∀ n i, i + n = 52 → WA X (mS I (up1 A 1 (fillF (A 1) i startB)) J) plM 0 0 2 [(0, .ref 0), (1, .int (nI i))] [] := by
    intro n
    induction n with
    | zero =>
      intro i hi
      obtain rfl : i = 52 := by omega
      refine r_12_start_2 F E (fun _ => ⟨rfl, rfl, rfl⟩) (fun h => absurd (nI_le (a := 52) (b := 52) (by omega) (by omega)) h) (fun h => absurd (nI_le (a := 52) (b := 52) (by omega) (by omega)) h)
    | succ n ih =>
      intro i hi
      have hlt : i < 52 := by omega
      refine r_12_start_2 F E (fun h => absurd h (nI_ge (b := 52) hlt (by omega))) (fun _ => vp_in_nI hlt (by omega)) (fun _ => ?_)
      rw [nI_clamp (show i < 2 ^ 31 by omega), rem26 (show i < 2 ^ 31 by omega), up1_up1, nI_1]
      have e : (if nI (i % 26) = 24 then (2 : Int32) else if nI (i % 26) = 13 then 5 else if nI (i % 26) = 6 then 5 else if nI (i % 26) = 8 then 3 else 0) = startB i := by
        simp only [nI_eqn 24 (show i % 26 < 2 ^ 31 by omega) (by omega), nI_eqn 13 (show i % 26 < 2 ^ 31 by omega) (by omega), nI_eqn 6 (show i % 26 < 2 ^ 31 by omega) (by omega), nI_eqn 8 (show i % 26 < 2 ^ 31 by omega) (by omega), startB]
        grind
      rw [e]
      have k := ih (i + 1) (by omega)
      rw [← fill_s] at k
      exact k
  have k := loop 52 0 rfl
  rw [fill_0, up1_id] at k
  exact k

def pipsF (b : Nat → Int32) (a : Nat) : Nat → Int32
  | 0 => 0
  | i + 1 => pipsF b a i + nI (i + 1) * b (26 * a + (i + 1))

theorem r_12_pips_0 {X : Ctx} (F : Fx X cX12_pips RX12 4 1 0 0) {I A : Nat → Nat → Int32} {J : Nat → Nat → Int64} {x1 : Int32}
    (e_1 : WA X (mS I A J) plM 0 0 4 [(0, .ref 0), (1, .int x1), (2, .int 0), (3, .int 1)] []) :
    WA X (mS I A J) plM 0 0 0 [(0, .ref 0), (1, .int x1)] [] := by
  refine a_iconst (v := 0) F dX12_pips_0 (by decide) ?_
  refine a_istore_n F dX12_pips_1 rfl (by decide) rfl ?_
  refine a_iconst (v := 1) F dX12_pips_2 (by decide) ?_
  refine a_istore_n F dX12_pips_3 rfl (by decide) rfl ?_
  refine a_sub [2, 3, 1, 0] rfl ?_
  exact e_1

theorem r_12_pips_4 {X : Ctx} (F : Fx X cX12_pips RX12 4 1 0 0) {Φ : Option Value → HS → List Nat → Prop} (E : Ex X (some .int) 0 0 Φ) {I A : Nat → Nat → Int32} {J : Nat → Nat → Int64} {x1 x2 x3 : Int32}
    (e_1 : (26 ≤ x3) → Φ (some (.int x2)) (mS I A J) plM)
    (o_2 : (¬ (26 ≤ x3)) → vp_in ((26 * x1) + x3) 52)
    (e_3 : (¬ (26 ≤ x3)) → WA X (mS I A J) plM 0 0 4 [(0, .ref 0), (1, .int x1), (2, .int (x2 + (x3 * (A 1 ((26 * x1) + x3).toNatClampNeg)))), (3, .int (x3 + 1))] []) :
    WA X (mS I A J) plM 0 0 4 [(0, .ref 0), (1, .int x1), (2, .int x2), (3, .int x3)] [] := by
  refine a_iload_n F 3 dX12_pips_4 rfl rfl ?_
  refine a_bipush (v := 26) F dX12_pips_5 (by decide) ?_
  refine a_icmp_ge (tgt := 32) F dX12_pips_7 (by decide) (fun (c_1 : 26 ≤ x3) => ?_) (fun (c_1 : ¬ (26 ≤ x3)) => ?_)
  · refine a_iload_n F 2 dX12_pips_32 rfl rfl ?_
    exact a_iret F E dX12_pips_33 (Nat.le_refl 0) (Nat.le_refl 0) (e_1 c_1)
  · refine a_iload_n F 2 dX12_pips_10 rfl rfl ?_
    refine a_iload_n F 3 dX12_pips_11 rfl rfl ?_
    refine a_aload_n F 0 dX12_pips_12 rfl rfl ?_
    refine a_getr (b := 1) F fl_12_13 rfl (by decide) rfl rfl dX12_pips_13 ?_
    refine a_bipush (v := 26) F dX12_pips_16 (by decide) ?_
    refine a_iload_n F 1 dX12_pips_18 rfl rfl ?_
    refine a_imul F dX12_pips_19 ?_
    refine a_iload_n F 3 dX12_pips_20 rfl rfl ?_
    refine a_iadd F dX12_pips_21 ?_
    refine a_iald F (by decide) rfl (o_2 c_1) dX12_pips_22 ?_
    refine a_imul F dX12_pips_23 ?_
    refine a_iadd F dX12_pips_24 ?_
    refine a_istore_n F dX12_pips_25 rfl (by decide) rfl ?_
    refine a_iinc (v := x3 + 1) F 3 dX12_pips_26 rfl rfl (by decide) rfl ?_
    refine a_goto (tgt := 4) F dX12_pips_29 (by decide) ?_
    refine a_sub [2, 3, 1, 0] rfl ?_
    exact e_3 c_1

set_option maxRecDepth 10000 in
theorem c_pips (l : Launch) (I A : Nat → Nat → Int32) (J : Nat → Nat → Int64) (a : Nat) (ha : a ≤ 1) : Con l 1 yX12_pips cX12_pips 4 (some .int) [.ref 0, .int (nI a)] (mS I A J) plM 0 0 (PM (some (.int (pipsF (A 1) a 25))) I A J) := by
  refine Con.of (by decide) (Nat.le_of_ble_eq_true rfl) (fun X hX9 hn9 F E => ?_)
  refine r_12_pips_0 F ?_
  have loop : ∀ n i, i + n = 25 → WA X (mS I A J) plM 0 0 4 [(0, .ref 0), (1, .int (nI a)), (2, .int (pipsF (A 1) a i)), (3, .int (nI (i + 1)))] [] := by
    intro n
    induction n with
    | zero =>
      intro i hi
      obtain rfl : i = 25 := by omega
      exact r_12_pips_4 F E (fun _ => ⟨rfl, rfl, rfl⟩) (fun h => absurd (nI_le (a := 26) (b := 26) (by omega) (by omega)) h) (fun h => absurd (nI_le (a := 26) (b := 26) (by omega) (by omega)) h)
    | succ n ih =>
      intro i hi
      have e : 26 * nI a + nI (i + 1) = nI (26 * a + (i + 1)) := by rw [lit, pk_mul, nI_add]
      refine r_12_pips_4 F E (fun h => absurd h (nI_ge (b := 26) (by omega) (by omega))) (fun _ => ?_) (fun _ => ?_)
      · rw [e]; exact vp_in_nI (by omega) (by omega)
      · rw [e, nI_clamp (by omega), nI_1]
        exact ih (i + 1) (by omega)
  exact loop 25 0 rfl

theorem r_12_men_0 {X : Ctx} (F : Fx X cX12_men RX12 3 2 0 0) {Φ : Option Value → HS → List Nat → Prop} (E : Ex X (some .int) 0 0 Φ) {I A : Nat → Nat → Int32} {J : Nat → Nat → Int64} {x1 x2 : Int32}
    (e_1 : (x1 < 0) → Φ (some (.int 0)) (mS (up2 (up2 I 0 0 0) 0 0 (1 : Int32)) A J) plM)
    (e_2 : (¬ (x1 < 0)) → (1 < x1) → Φ (some (.int 0)) (mS (up2 (up2 I 0 0 0) 0 0 (1 : Int32)) A J) plM)
    (e_3 : (¬ (x1 < 0)) → (¬ (1 < x1)) → (x2 < 0) → Φ (some (.int 0)) (mS (up2 (up2 I 0 0 0) 0 0 (1 : Int32)) A J) plM)
    (e_4 : (¬ (x1 < 0)) → (¬ (1 < x1)) → (¬ (x2 < 0)) → (25 < x2) → Φ (some (.int 0)) (mS (up2 (up2 I 0 0 0) 0 0 (1 : Int32)) A J) plM)
    (o_5 : (¬ (x1 < 0)) → (¬ (1 < x1)) → (¬ (x2 < 0)) → (¬ (25 < x2)) → vp_in ((26 * x1) + x2) 52)
    (e_6 : (¬ (x1 < 0)) → (¬ (1 < x1)) → (¬ (x2 < 0)) → (¬ (25 < x2)) → Φ (some (.int (A 1 ((26 * x1) + x2).toNatClampNeg))) (mS (up2 I 0 0 0) A J) plM) :
    WA X (mS I A J) plM 0 0 0 [(0, .ref 0), (1, .int x1), (2, .int x2)] [] := by
  refine a_aload_n F 0 dX12_men_0 rfl rfl ?_
  refine a_iconst (v := 0) F dX12_men_1 (by decide) ?_
  refine a_puti F fl_12_1 rfl rfl rfl rfl (by decide) rfl dX12_men_2 ?_
  refine a_aload_n F 0 dX12_men_5 rfl rfl ?_
  refine a_iload_n F 1 dX12_men_6 rfl rfl ?_
  refine a_if_lt (tgt := 29) F dX12_men_7 (by decide) (fun (c_1 : x1 < 0) => ?_) (fun (c_1 : ¬ (x1 < 0)) => ?_)
  · refine a_iconst (v := 0) F dX12_men_29 (by decide) ?_
    refine a_iconst (v := 1) F dX12_men_30 (by decide) ?_
    refine a_callV (b := 0) (As := [.int 0, .int 1]) (st := []) (ci := 12) F (c_may0 (xl X) (up2 I 0 0 0) A J (1 : Int32) (by decide) rfl) ml_12_155 im_yX12_may se_yX12_may (by decide) (by decide) rfl (by decide) rfl rfl dX12_men_31 (by decide) (Nat.le_refl 0) (Nat.le_refl 0) (hl_r (by decide) (hl_i (hl_i hl_nil))) hs_nil ?_
    rintro _ _ _ ⟨rfl, rfl, rfl⟩ _
    show WA X (mS (up2 (up2 I 0 0 0) 0 0 (1 : Int32)) A J) plM 0 0 34 [(0, .ref 0), (1, .int x1), (2, .int x2)] [.int 0]
    refine a_if_eq (tgt := 51) F dX12_men_34 (by decide) (fun (c_2 : (0 : Int32) = 0) => ?_) (fun (c_2 : ¬ ((0 : Int32) = 0)) => ?_)
    · refine a_iconst (v := 0) F dX12_men_51 (by decide) ?_
      exact a_iret F E dX12_men_52 (Nat.le_refl 0) (Nat.le_refl 0) (e_1 c_1)
    · exact absurd c_2 (by decide)
  · refine a_iload_n F 1 dX12_men_10 rfl rfl ?_
    refine a_iconst (v := 1) F dX12_men_11 (by decide) ?_
    refine a_icmp_gt (tgt := 29) F dX12_men_12 (by decide) (fun (c_3 : 1 < x1) => ?_) (fun (c_3 : ¬ (1 < x1)) => ?_)
    · refine a_iconst (v := 0) F dX12_men_29 (by decide) ?_
      refine a_iconst (v := 1) F dX12_men_30 (by decide) ?_
      refine a_callV (b := 0) (As := [.int 0, .int 1]) (st := []) (ci := 12) F (c_may0 (xl X) (up2 I 0 0 0) A J (1 : Int32) (by decide) rfl) ml_12_155 im_yX12_may se_yX12_may (by decide) (by decide) rfl (by decide) rfl rfl dX12_men_31 (by decide) (Nat.le_refl 0) (Nat.le_refl 0) (hl_r (by decide) (hl_i (hl_i hl_nil))) hs_nil ?_
      rintro _ _ _ ⟨rfl, rfl, rfl⟩ _
      show WA X (mS (up2 (up2 I 0 0 0) 0 0 (1 : Int32)) A J) plM 0 0 34 [(0, .ref 0), (1, .int x1), (2, .int x2)] [.int 0]
      refine a_if_eq (tgt := 51) F dX12_men_34 (by decide) (fun (c_4 : (0 : Int32) = 0) => ?_) (fun (c_4 : ¬ ((0 : Int32) = 0)) => ?_)
      · refine a_iconst (v := 0) F dX12_men_51 (by decide) ?_
        exact a_iret F E dX12_men_52 (Nat.le_refl 0) (Nat.le_refl 0) (e_2 c_1 c_3)
      · exact absurd c_4 (by decide)
    · refine a_iload_n F 2 dX12_men_15 rfl rfl ?_
      refine a_if_lt (tgt := 29) F dX12_men_16 (by decide) (fun (c_5 : x2 < 0) => ?_) (fun (c_5 : ¬ (x2 < 0)) => ?_)
      · refine a_iconst (v := 0) F dX12_men_29 (by decide) ?_
        refine a_iconst (v := 1) F dX12_men_30 (by decide) ?_
        refine a_callV (b := 0) (As := [.int 0, .int 1]) (st := []) (ci := 12) F (c_may0 (xl X) (up2 I 0 0 0) A J (1 : Int32) (by decide) rfl) ml_12_155 im_yX12_may se_yX12_may (by decide) (by decide) rfl (by decide) rfl rfl dX12_men_31 (by decide) (Nat.le_refl 0) (Nat.le_refl 0) (hl_r (by decide) (hl_i (hl_i hl_nil))) hs_nil ?_
        rintro _ _ _ ⟨rfl, rfl, rfl⟩ _
        show WA X (mS (up2 (up2 I 0 0 0) 0 0 (1 : Int32)) A J) plM 0 0 34 [(0, .ref 0), (1, .int x1), (2, .int x2)] [.int 0]
        refine a_if_eq (tgt := 51) F dX12_men_34 (by decide) (fun (c_6 : (0 : Int32) = 0) => ?_) (fun (c_6 : ¬ ((0 : Int32) = 0)) => ?_)
        · refine a_iconst (v := 0) F dX12_men_51 (by decide) ?_
          exact a_iret F E dX12_men_52 (Nat.le_refl 0) (Nat.le_refl 0) (e_3 c_1 c_3 c_5)
        · exact absurd c_6 (by decide)
      · refine a_iload_n F 2 dX12_men_19 rfl rfl ?_
        refine a_bipush (v := 25) F dX12_men_20 (by decide) ?_
        refine a_icmp_gt (tgt := 29) F dX12_men_22 (by decide) (fun (c_7 : 25 < x2) => ?_) (fun (c_7 : ¬ (25 < x2)) => ?_)
        · refine a_iconst (v := 0) F dX12_men_29 (by decide) ?_
          refine a_iconst (v := 1) F dX12_men_30 (by decide) ?_
          refine a_callV (b := 0) (As := [.int 0, .int 1]) (st := []) (ci := 12) F (c_may0 (xl X) (up2 I 0 0 0) A J (1 : Int32) (by decide) rfl) ml_12_155 im_yX12_may se_yX12_may (by decide) (by decide) rfl (by decide) rfl rfl dX12_men_31 (by decide) (Nat.le_refl 0) (Nat.le_refl 0) (hl_r (by decide) (hl_i (hl_i hl_nil))) hs_nil ?_
          rintro _ _ _ ⟨rfl, rfl, rfl⟩ _
          show WA X (mS (up2 (up2 I 0 0 0) 0 0 (1 : Int32)) A J) plM 0 0 34 [(0, .ref 0), (1, .int x1), (2, .int x2)] [.int 0]
          refine a_if_eq (tgt := 51) F dX12_men_34 (by decide) (fun (c_8 : (0 : Int32) = 0) => ?_) (fun (c_8 : ¬ ((0 : Int32) = 0)) => ?_)
          · refine a_iconst (v := 0) F dX12_men_51 (by decide) ?_
            exact a_iret F E dX12_men_52 (Nat.le_refl 0) (Nat.le_refl 0) (e_4 c_1 c_3 c_5 c_7)
          · exact absurd c_8 (by decide)
        · refine a_iconst (v := 1) F dX12_men_25 (by decide) ?_
          refine a_goto (tgt := 30) F dX12_men_26 (by decide) ?_
          refine a_iconst (v := 1) F dX12_men_30 (by decide) ?_
          refine a_callV (b := 0) (As := [.int 1, .int 1]) (st := []) (ci := 12) F (c_may1 (xl X) (up2 I 0 0 0) A J (1 : Int32) (by decide) rfl) ml_12_155 im_yX12_may se_yX12_may (by decide) (by decide) rfl (by decide) rfl rfl dX12_men_31 (by decide) (Nat.le_refl 0) (Nat.le_refl 0) (hl_r (by decide) (hl_i (hl_i hl_nil))) hs_nil ?_
          rintro _ _ _ ⟨rfl, rfl, rfl⟩ _
          show WA X (mS (up2 I 0 0 0) A J) plM 0 0 34 [(0, .ref 0), (1, .int x1), (2, .int x2)] [.int 1]
          refine a_if_eq (tgt := 51) F dX12_men_34 (by decide) (fun (c_9 : (1 : Int32) = 0) => ?_) (fun (c_9 : ¬ ((1 : Int32) = 0)) => ?_)
          · exact absurd c_9 (by decide)
          · refine a_aload_n F 0 dX12_men_37 rfl rfl ?_
            refine a_getr (b := 1) F fl_12_13 rfl (by decide) rfl rfl dX12_men_38 ?_
            refine a_bipush (v := 26) F dX12_men_41 (by decide) ?_
            refine a_iload_n F 1 dX12_men_43 rfl rfl ?_
            refine a_imul F dX12_men_44 ?_
            refine a_iload_n F 2 dX12_men_45 rfl rfl ?_
            refine a_iadd F dX12_men_46 ?_
            refine a_iald F (by decide) rfl (o_5 c_1 c_3 c_5 c_7) dX12_men_47 ?_
            refine a_goto (tgt := 52) F dX12_men_48 (by decide) ?_
            exact a_iret F E dX12_men_52 (Nat.le_refl 0) (Nat.le_refl 0) (e_6 c_1 c_3 c_5 c_7)

set_option maxRecDepth 10000 in
theorem c_men (l : Launch) (I A : Nat → Nat → Int32) (J : Nat → Nat → Int64) (a b : Int32) : Con l 2 yX12_men cX12_men 3 (some .int) [.ref 0, .int a, .int b] (mS I A J) plM 0 0 (PM (some (.int (if 0 ≤ a ∧ a ≤ 1 ∧ 0 ≤ b ∧ b ≤ 25 then A 1 (26 * a + b).toNatClampNeg else 0))) (up2 I 0 0 (if 0 ≤ a ∧ a ≤ 1 ∧ 0 ≤ b ∧ b ≤ 25 then 0 else 1)) A J) := by
  refine Con.of (by decide) (Nat.le_of_ble_eq_true rfl) (fun X hX9 hn9 F E => ?_)
  refine r_12_men_0 F E ?_ ?_ ?_ ?_ ?_ ?_ <;> (clear F E hn9 hX9; (try clear X); intros <;> first | exact bd_in2 (by grind) (by grind) (by grind) (by grind) | (simp_all [PM, up2_up2]; done) | (simp_all [PM, up2_up2]; grind))
