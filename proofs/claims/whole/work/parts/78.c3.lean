theorem kd_lo (B : Nat → Nat) (o : Nat) : ∀ n, kd B o (n + 1) = B o + 16 * kd B (o + 1) n
  | 0 => by simp only [kd, Nat.add_zero]; omega
  | n + 1 => by
    have ih := kd_lo B o n
    have e : kd B o (n + 1 + 1) = kd B o (n + 1) + B (o + (n + 1)) * 16 ^ (n + 1) := rfl
    have e2 : kd B (o + 1) (n + 1) = kd B (o + 1) n + B (o + 1 + n) * 16 ^ n := rfl
    rw [e, ih, e2, show o + 1 + n = o + (n + 1) by omega, Nat.mul_add, Nat.pow_succ, ← Nat.mul_assoc 16, Nat.mul_comm 16 (B (o + (n + 1))), Nat.mul_assoc, Nat.mul_comm 16 (16 ^ n), Nat.add_assoc]
theorem i_15 (w : Nat) : nI w &&& 15 = nI (w % 16) := by
  have h3 : UInt32.ofNat w &&& UInt32.ofNat 15 = UInt32.ofNat (w % 16) := UInt32.toNat_inj.mp (by
    rw [UInt32.toNat_and, UInt32.toNat_ofNat', UInt32.toNat_ofNat', u3_tn (by omega)]
    have e := Nat.and_two_pow_sub_one_eq_mod (w % 2 ^ 32) 4
    rw [show (2 : Nat) ^ 4 - 1 = 15 from rfl] at e
    rw [Nat.mod_eq_of_lt (show 15 < 2 ^ 32 by decide), e, show (2 : Nat) ^ 4 = 16 from rfl]
    omega)
  exact congrArg UInt32.toInt32 h3
def phR (r : Nat → Int32) (o n v : Nat) : Nat → Int32 := fun j => if o ≤ j ∧ j < o + n then nI (v / 16 ^ (j - o) % 16) else r j
theorem phR_0 (r : Nat → Int32) (o v : Nat) : phR r o 0 v = r := by funext j; unfold phR; rw [if_neg (by omega)]
theorem phR_up (r : Nat → Int32) (o n v : Nat) : upd (phR r o n v) (o + n) (nI (v / 16 ^ n % 16)) = phR r o (n + 1) v := by
  funext j
  unfold upd phR
  by_cases h : j = o + n
  · subst h; rw [if_pos rfl, if_pos (by omega), show o + n - o = n by omega]
  · rw [if_neg h]
    by_cases h2 : o ≤ j ∧ j < o + n
    · rw [if_pos h2, if_pos (by omega)]
    · rw [if_neg h2, if_neg (by omega)]

theorem r_0_half_0 {X : Ctx} (F : Fx X cX0_half RX0 6 1 0 0) {P O : Nat → Nat → Option Nat} (hP : laP P) {I A : Nat → Nat → Int32} {J : Nat → Nat → Int64} {pl : List Nat} (hB : inB pl) {x1 x2 : Int32} {p : Nat} (hk_p : kC p = 0) (hp_p : p ∈ pl) (hq_p : p + 1 ∈ pl)
    (e_1 : WA X (mC P O I A J) pl 0 0 5 [(0, .ref p), (1, .int x1), (2, .int x2), (3, .long 0), (5, .int x2)] []) :
    WA X (mC P O I A J) pl 0 0 0 [(0, .ref p), (1, .int x1), (2, .int x2)] [] := by
  refine a_lconst (v := 0) F dX0_half_0 (by decide) ?_
  refine a_lstore_n F dX0_half_1 rfl (by decide) rfl ?_
  refine a_iload_n F 3 dX0_half_2 rfl rfl ?_
  refine a_istore F dX0_half_3 (by decide) rfl ?_
  refine a_sub [2, 3, 4, 1, 0] rfl ?_
  exact e_1

theorem r_0_half_5 {X : Ctx} (F : Fx X cX0_half RX0 6 1 0 0) {Φ : Option Value → HS → List Nat → Prop} (E : Ex X (some .long) 0 0 Φ) {P O : Nat → Nat → Option Nat} (hP : laP P) {I A : Nat → Nat → Int32} {J : Nat → Nat → Int64} {pl : List Nat} (hB : inB pl) {x1 x2 x5 : Int32} {y3 : Int64} {p : Nat} (hk_p : kC p = 0) (hp_p : p ∈ pl) (hq_p : p + 1 ∈ pl)
    (e_1 : (x5 ≤ (x2 - 13)) → Φ (some (.long y3)) (mC P O I A J) pl)
    (o_2 : (¬ (x5 ≤ (x2 - 13))) → vp_in ((x1 * 26) + x5) 52)
    (e_3 : (¬ (x5 ≤ (x2 - 13))) → WA X (mC P O I A J) pl 0 0 5 [(0, .ref p), (1, .int x1), (2, .int x2), (3, .long ((y3 <<< ((4 : Int32).toInt64 &&& 63)) ||| ((A (p + 1) ((x1 * 26) + x5).toNatClampNeg : Int32).toInt64))), (5, .int (x5 + (-1)))] []) :
    WA X (mC P O I A J) pl 0 0 5 [(0, .ref p), (1, .int x1), (2, .int x2), (3, .long y3), (5, .int x5)] [] := by
  refine a_iload F 4 dX0_half_5 rfl ?_
  refine a_iload_n F 2 dX0_half_7 rfl rfl ?_
  refine a_bipush (v := 13) F dX0_half_8 (by decide) ?_
  refine a_isub F dX0_half_10 ?_
  refine a_icmp_le (tgt := 38) F dX0_half_11 (by decide) (fun (c_1 : x5 ≤ (x2 - 13)) => ?_) (fun (c_1 : ¬ (x5 ≤ (x2 - 13))) => ?_)
  · refine a_lload_n F 3 dX0_half_38 rfl rfl ?_
    exact a_lret F E dX0_half_39 (Nat.le_refl 0) (Nat.le_refl 0) (e_1 c_1)
  · refine a_lload_n F 3 dX0_half_14 rfl rfl ?_
    refine a_iconst (v := 4) F dX0_half_15 (by decide) ?_
    refine a_lshl F dX0_half_16 ?_
    refine a_aload_n F 0 dX0_half_17 rfl rfl ?_
    refine a_getr (b := (p + 1)) F fl_0_9 rfl (hp_p) hk_p (laP_bd hP hk_p) dX0_half_18 ?_
    refine a_iload_n F 1 dX0_half_21 rfl rfl ?_
    refine a_bipush (v := 26) F dX0_half_22 (by decide) ?_
    refine a_imul F dX0_half_24 ?_
    refine a_iload F 4 dX0_half_25 rfl ?_
    refine a_iadd F dX0_half_27 ?_
    refine a_iald F (hq_p) (k_bd hk_p).1 (show vp_in _ (nC (p + 1)) from (k_bd hk_p).2 ▸ o_2 c_1) dX0_half_28 ?_
    refine a_i2l F dX0_half_29 ?_
    refine a_lor F dX0_half_30 ?_
    refine a_lstore_n F dX0_half_31 rfl (by decide) rfl ?_
    refine a_iinc (v := x5 + (-1)) F 4 dX0_half_32 rfl rfl (by decide) rfl ?_
    refine a_goto (tgt := 5) F dX0_half_35 (by decide) ?_
    refine a_sub [2, 3, 4, 1, 0] rfl ?_
    exact e_3 c_1

set_option maxRecDepth 10000 in
theorem c_0_half (l : Launch) {P O : Nat → Nat → Option Nat} (hP : laP P) (I A : Nat → Nat → Int32) (J : Nat → Nat → Int64) {pl : List Nat} (hB : inB pl) (p : Nat) (hk_p : kC p = 0) (hp_p : p ∈ pl) (hq_p : p + 1 ∈ pl) (a top : Nat) (B : Nat → Nat) (ha : a ≤ 1) (ht : top = 25 ∨ top = 12) (hb : bdR (A (p + 1)) 0 B) (hdg : dgB B) : Con l 1 yX0_half cX0_half 6 (some .long) [.ref p, .int (nI a), .int (nI top)] (mC P O I A J) pl 0 0 (PC (some (.long (lN (kd B (26 * a + (top - 12)) 13)))) P O I A J pl) := by
  refine Con.of (by decide) (Nat.le_of_ble_eq_true rfl) (fun X hX9 hn9 F E => ?_)
  have t25 : top ≤ 25 := by omega
  have t12 : 12 ≤ top := by omega
  have lp : ∀ f n (x5 : Int32), n + f = 13 → x5 = nI (top + 1 - n) - 1 → WA X (mC P O I A J) pl 0 0 5 [(0, .ref p), (1, .int (nI a)), (2, .int (nI top)), (3, .long (lN (kd B (26 * a + (top + 1 - n)) n))), (5, .int x5)] [] := by
    intro f
    induction f with
    | zero =>
      intro n x5 hn hx
      obtain rfl : n = 13 := by omega
      have h : x5 ≤ nI top - 13 := by rw [hx]; rcases ht with rfl | rfl <;> decide
      refine r_0_half_5 F E hP hB hk_p hp_p hq_p (fun _ => ⟨by rw [show top + 1 - 13 = top - 12 by omega], rfl, rfl⟩) (fun z => absurd h z) (fun z => absurd h z)
    | succ f ih =>
      intro n x5 hn hx
      have ex : x5 = nI (top - n) := by rw [hx, show nI (top + 1 - n) - 1 = nI (top + 1 - n - 1) from pk_sub (b := 1) (by omega)]; congr 1; omega
      have h : ¬ x5 ≤ nI top - 13 := by
        rw [ex]
        have h0 : (0 : Int32) ≤ nI (top - n) := (nI_gen 0 (by omega) (by omega)).mpr (Nat.zero_le _)
        rcases ht with rfl | rfl
        · have h1 : (13 : Int32) ≤ nI (25 - n) := (nI_gen 13 (by omega) (by omega)).mpr (by omega)
          have h2 : nI 25 - 13 = 12 := by decide
          rw [h2]; grind
        · have h2 : nI 12 - 13 = -1 := by decide
          rw [h2]; grind
      have bd := hdg (26 * a + (top - n)) (by omega)
      have hk := kd_lt (B := B) (o := 26 * a + (top + 1 - n)) n (fun k hk => hdg _ (by omega))
      have h16 : (16 : Nat) ^ n ≤ 16 ^ 12 := Nat.pow_le_pow_right (by decide) (by omega)
      have h16' : (16 : Nat) ^ 12 = 281474976710656 := by decide
      refine r_0_half_5 F E hP hB hk_p hp_p hq_p (fun z => absurd z h) (fun _ => by rw [ex, ix_a]; exact vp_in_nI (by omega) (by omega)) (fun _ => ?_)
      have e1 : A (p + 1) (nI a * 26 + x5).toNatClampNeg = nI (B (26 * a + (top - n))) := by rw [ex, ix_a, nI_clamp (by omega)]; exact bd_at hb (by omega)
      have e2 := kd_lo B (26 * a + (top - n)) n
      rw [show 26 * a + (top - n) + 1 = 26 * a + (top + 1 - n) by omega] at e2
      have e3 : lN (kd B (26 * a + (top + 1 - n)) n) <<< ((4 : Int32).toInt64 &&& 63) = lN (kd B (26 * a + (top + 1 - n)) n * 2 ^ 4) := wb_shl _ (k := 4) (by decide)
      rw [e1, nI_l (by omega), e3, g_or (k := 4) (p := 2 ^ 4) rfl (by omega) (by omega)]
      rw [show kd B (26 * a + (top + 1 - n)) n * 2 ^ 4 + B (26 * a + (top - n)) = kd B (26 * a + (top - n)) (n + 1) by rw [e2]; omega]
      have := ih (n + 1) (x5 + (-1)) (by omega) (by rw [ex, show top + 1 - (n + 1) = top - n by omega]; grind)
      rw [show top + 1 - (n + 1) = top - n by omega] at this
      exact this
  have := lp 13 0 (nI top) rfl (by rw [Nat.sub_zero, ← nI_1]; grind)
  exact r_0_half_0 F hP hB hk_p hp_p hq_p this

theorem r_0_putHalf_0 {X : Ctx} (F : Fx X cX0_putHalf RX0 6 2 0 0) {P O : Nat → Nat → Option Nat} (hP : laP P) {I A : Nat → Nat → Int32} {J : Nat → Nat → Int64} {pl : List Nat} (hB : inB pl) {x1 x2 : Int32} {y3 : Int64} {p : Nat} (hk_p : kC p = 0) (hp_p : p ∈ pl) (hq_p : p + 1 ∈ pl)
    (e_1 : WA X (mC P O I A J) pl 0 0 3 [(0, .ref p), (1, .int x1), (2, .int x2), (3, .long y3), (5, .int 0)] []) :
    WA X (mC P O I A J) pl 0 0 0 [(0, .ref p), (1, .int x1), (2, .int x2), (3, .long y3)] [] := by
  refine a_iconst (v := 0) F dX0_putHalf_0 (by decide) ?_
  refine a_istore F dX0_putHalf_1 (by decide) rfl ?_
  refine a_sub [1, 2, 3, 4, 0] rfl ?_
  exact e_1

theorem r_0_putHalf_3 {X : Ctx} (F : Fx X cX0_putHalf RX0 6 2 0 0) {Φ : Option Value → HS → List Nat → Prop} (E : Ex X none 0 0 Φ) {P O : Nat → Nat → Option Nat} (hP : laP P) {I A : Nat → Nat → Int32} {J : Nat → Nat → Int64} {pl : List Nat} (hB : inB pl) {x1 x2 x5 : Int32} {y3 : Int64} {p : Nat} (hk_p : kC p = 0) (hp_p : p ∈ pl) (hq_p : p + 1 ∈ pl)
    (e_1 : (13 ≤ x5) → Φ none (mC P O I A J) pl)
    (o_2 : (¬ (13 ≤ x5)) → vp_in (x1 * 26 + (((x2 - 13) + 1) + x5)) 52)
    (e_3 : (¬ (13 ≤ x5)) → WA X (mC P O I (up1 A (p + 1) (upd (A (p + 1)) (x1 * 26 + (((x2 - 13) + 1) + x5)).toNatClampNeg (((((y3 : Int64).toUInt64 >>> (((4 * x5) : Int32).toInt64.toUInt64 &&& Int64.toUInt64 63)).toInt64 : Int64).toInt32) &&& 15))) J) pl 0 0 3 [(0, .ref p), (1, .int x1), (2, .int x2), (3, .long y3), (5, .int (x5 + 1))] []) :
    WA X (mC P O I A J) pl 0 0 3 [(0, .ref p), (1, .int x1), (2, .int x2), (3, .long y3), (5, .int x5)] [] := by
  refine a_iload F 4 dX0_putHalf_3 rfl ?_
  refine a_bipush (v := 13) F dX0_putHalf_5 (by decide) ?_
  refine a_icmp_ge (tgt := 40) F dX0_putHalf_7 (by decide) (fun (c_1 : 13 ≤ x5) => ?_) (fun (c_1 : ¬ (13 ≤ x5)) => ?_)
  · exact a_vret F E dX0_putHalf_40 (Nat.le_refl 0) (Nat.le_refl 0) (e_1 c_1)
  · refine a_aload_n F 0 dX0_putHalf_10 rfl rfl ?_
    refine a_iload_n F 1 dX0_putHalf_11 rfl rfl ?_
    refine a_iload_n F 2 dX0_putHalf_12 rfl rfl ?_
    refine a_bipush (v := 13) F dX0_putHalf_13 (by decide) ?_
    refine a_isub F dX0_putHalf_15 ?_
    refine a_iconst (v := 1) F dX0_putHalf_16 (by decide) ?_
    refine a_iadd F dX0_putHalf_17 ?_
    refine a_iload F 4 dX0_putHalf_18 rfl ?_
    refine a_iadd F dX0_putHalf_20 ?_
    refine a_lload_n F 3 dX0_putHalf_21 rfl rfl ?_
    refine a_iconst (v := 4) F dX0_putHalf_22 (by decide) ?_
    refine a_iload F 4 dX0_putHalf_23 rfl ?_
    refine a_imul F dX0_putHalf_25 ?_
    refine a_lushr F dX0_putHalf_26 ?_
    refine a_l2i F dX0_putHalf_27 ?_
    refine a_bipush (v := 15) F dX0_putHalf_28 (by decide) ?_
    refine a_iand F dX0_putHalf_30 ?_
    refine a_callV (b := p) (As := [.int x1, .int (((x2 - 13) + 1) + x5), .int (((((y3 : Int64).toUInt64 >>> (((4 * x5) : Int32).toInt64.toUInt64 &&& Int64.toUInt64 63)).toInt64 : Int64).toInt32) &&& 15)]) (st := []) (ci := 0) F (c_0_put (xl X) hP I A J hB p hk_p (hp_p) (hq_p) x1 (((x2 - 13) + 1) + x5) (((((y3 : Int64).toUInt64 >>> (((4 * x5) : Int32).toInt64.toUInt64 &&& Int64.toUInt64 63)).toInt64 : Int64).toInt32) &&& 15) (o_2 c_1)) ml_0_21 im_yX0_put se_yX0_put (by decide) (by decide) rfl (hp_p) hk_p rfl dX0_putHalf_31 (by decide) (Nat.le_refl 0) (Nat.le_refl 0) (hl_r (hp_p) (hl_i (hl_i (hl_l (hl_i hl_nil))))) hs_nil ?_
    rintro _ _ _ ⟨rfl, rfl, rfl⟩ _
    show WA X (mC P O I (up1 A (p + 1) (upd (A (p + 1)) (x1 * 26 + (((x2 - 13) + 1) + x5)).toNatClampNeg (((((y3 : Int64).toUInt64 >>> (((4 * x5) : Int32).toInt64.toUInt64 &&& Int64.toUInt64 63)).toInt64 : Int64).toInt32) &&& 15))) J) pl 0 0 34 [(0, .ref p), (1, .int x1), (2, .int x2), (3, .long y3), (5, .int x5)] []
    refine a_iinc (v := x5 + 1) F 4 dX0_putHalf_34 rfl rfl (by decide) rfl ?_
    refine a_goto (tgt := 3) F dX0_putHalf_37 (by decide) ?_
    refine a_sub [1, 2, 3, 4, 0] rfl ?_
    exact e_3 c_1

set_option maxRecDepth 10000 in
theorem c_0_putHalf (l : Launch) {P O : Nat → Nat → Option Nat} (hP : laP P) (I A : Nat → Nat → Int32) (J : Nat → Nat → Int64) {pl : List Nat} (hB : inB pl) (p : Nat) (hk_p : kC p = 0) (hp_p : p ∈ pl) (hq_p : p + 1 ∈ pl) (a top v : Nat) (ha : a ≤ 1) (ht : top = 25 ∨ top = 12) (hv : v < 2 ^ 63) : Con l 2 yX0_putHalf cX0_putHalf 6 none [.ref p, .int (nI a), .int (nI top), .long (lN v)] (mC P O I A J) pl 0 0 (PC none P O I (up1 A (p + 1) (phR (A (p + 1)) (26 * a + (top - 12)) 13 v)) J pl) := by
  refine Con.of (by decide) (Nat.le_of_ble_eq_true rfl) (fun X hX9 hn9 F E => ?_)
  have t25 : top ≤ 25 := by omega
  have t12 : 12 ≤ top := by omega
  have lp : ∀ f k, k + f = 13 → WA X (mC P O I (up1 A (p + 1) (phR (A (p + 1)) (26 * a + (top - 12)) k v)) J) pl 0 0 3 [(0, .ref p), (1, .int (nI a)), (2, .int (nI top)), (3, .long (lN v)), (5, .int (nI k))] [] := by
    intro f
    induction f with
    | zero =>
      intro k hk
      obtain rfl : k = 13 := by omega
      have h : (13 : Int32) ≤ nI 13 := by decide
      exact r_0_putHalf_3 F E hP hB hk_p hp_p hq_p (fun _ => ⟨rfl, rfl, rfl⟩) (fun z => absurd h z) (fun z => absurd h z)
    | succ f ih =>
      intro k hk
      have h : ¬ (13 : Int32) ≤ nI k := nI_ge (b := 13) (by omega) (by omega)
      have e1 : nI top - 13 + 1 + nI k = nI (top - 12 + k) := by
        rcases ht with rfl | rfl
        · rw [show nI 25 - 13 + 1 = nI 13 by decide, nI_add]
        · rw [show nI 12 - 13 + 1 = nI 0 by decide, nI_add]
      have i1 : nI a * 26 + (nI top - 13 + 1 + nI k) = nI (26 * a + (top - 12) + k) := by rw [e1, ix_a]; congr 1; omega
      refine r_0_putHalf_3 F E hP hB hk_p hp_p hq_p (fun z => absurd z h) (fun _ => by rw [i1]; exact vp_in_nI (by omega) (by omega)) (fun _ => ?_)
      have e4 : (4 : Int32) * nI k = nI (4 * k) := by rw [lit 4, pk_mul]
      have e2 : ((((lN v).toUInt64 >>> (((4 * nI k) : Int32).toInt64.toUInt64 &&& Int64.toUInt64 63)).toInt64 : Int64).toInt32) &&& 15 = nI (v / 16 ^ k % 16) := by
        rw [e4, wb_shr (by omega) (by omega), lN_i, i_15, Nat.pow_mul]
      rw [up1_up1, up1_s, i1, e2, nI_clamp (by omega), phR_up, nI_1]
      exact ih (k + 1) (by omega)
  have := lp 13 0 rfl
  rw [phR_0, up1_id] at this
  exact r_0_putHalf_0 F hP hB hk_p hp_p hq_p this
