theorem r_0_count_0 {X : Ctx} (F : Fx X cX0_count RX0 3 1 0 0) {Φ : Option Value → HS → List Nat → Prop} (E : Ex X (some .int) 0 0 Φ) {P O : Nat → Nat → Option Nat} (hP : laP P) {I A : Nat → Nat → Int32} {J : Nat → Nat → Int64} {pl : List Nat} (hB : inB pl) {x1 x2 : Int32} {p : Nat} (hk_p : kC p = 0) (hp_p : p ∈ pl) (hq_p : p + 1 ∈ pl)
    (o_1 : vp_in ((x1 * 26) + x2) 52)
    (e_2 : Φ (some (.int (A (p + 1) ((x1 * 26) + x2).toNatClampNeg))) (mC P O I A J) pl) :
    WA X (mC P O I A J) pl 0 0 0 [(0, .ref p), (1, .int x1), (2, .int x2)] [] := by
  refine a_aload_n F 0 dX0_count_0 rfl rfl ?_
  refine a_getr (b := (p + 1)) F fl_0_9 rfl (hp_p) hk_p (laP_bd hP hk_p) dX0_count_1 ?_
  refine a_iload_n F 1 dX0_count_4 rfl rfl ?_
  refine a_bipush (v := 26) F dX0_count_5 (by decide) ?_
  refine a_imul F dX0_count_7 ?_
  refine a_iload_n F 2 dX0_count_8 rfl rfl ?_
  refine a_iadd F dX0_count_9 ?_
  refine a_iald F (hq_p) (k_bd hk_p).1 (show vp_in _ (nC (p + 1)) from (k_bd hk_p).2 ▸ o_1) dX0_count_10 ?_
  exact a_iret F E dX0_count_11 (Nat.le_refl 0) (Nat.le_refl 0) (e_2)

set_option maxRecDepth 10000 in
theorem c_0_count (l : Launch) {P O : Nat → Nat → Option Nat} (hP : laP P) (I A : Nat → Nat → Int32) (J : Nat → Nat → Int64) {pl : List Nat} (hB : inB pl) (p : Nat) (hk_p : kC p = 0) (hp_p : p ∈ pl) (hq_p : p + 1 ∈ pl) (a b : Int32) (h : vp_in (a * 26 + b) 52) : Con l 1 yX0_count cX0_count 3 (some .int) [.ref p, .int a, .int b] (mC P O I A J) pl 0 0 (PC (some (.int (A (p + 1) (a * 26 + b).toNatClampNeg))) P O I A J pl) := by
  refine Con.of (by decide) (Nat.le_of_ble_eq_true rfl) (fun X hX9 hn9 F E => ?_)
  refine r_0_count_0 F E hP hB hk_p hp_p hq_p ?_ ?_ <;> (clear F E hn9 hX9; (try clear X); first | exact h | exact ⟨rfl, rfl, rfl⟩)

theorem r_0_put_0 {X : Ctx} (F : Fx X cX0_put RX0 4 1 0 0) {Φ : Option Value → HS → List Nat → Prop} (E : Ex X none 0 0 Φ) {P O : Nat → Nat → Option Nat} (hP : laP P) {I A : Nat → Nat → Int32} {J : Nat → Nat → Int64} {pl : List Nat} (hB : inB pl) {x1 x2 x3 : Int32} {p : Nat} (hk_p : kC p = 0) (hp_p : p ∈ pl) (hq_p : p + 1 ∈ pl)
    (o_1 : vp_in ((x1 * 26) + x2) 52)
    (e_2 : Φ none (mC P O I (up1 A (p + 1) (upd (A (p + 1)) ((x1 * 26) + x2).toNatClampNeg x3)) J) pl) :
    WA X (mC P O I A J) pl 0 0 0 [(0, .ref p), (1, .int x1), (2, .int x2), (3, .int x3)] [] := by
  refine a_aload_n F 0 dX0_put_0 rfl rfl ?_
  refine a_getr (b := (p + 1)) F fl_0_9 rfl (hp_p) hk_p (laP_bd hP hk_p) dX0_put_1 ?_
  refine a_iload_n F 1 dX0_put_4 rfl rfl ?_
  refine a_bipush (v := 26) F dX0_put_5 (by decide) ?_
  refine a_imul F dX0_put_7 ?_
  refine a_iload_n F 2 dX0_put_8 rfl rfl ?_
  refine a_iadd F dX0_put_9 ?_
  refine a_iload_n F 3 dX0_put_10 rfl rfl ?_
  refine a_iast F (hq_p) (k_bd hk_p).1 (show vp_in _ (nC (p + 1)) from (k_bd hk_p).2 ▸ o_1) dX0_put_11 ?_
  exact a_vret F E dX0_put_12 (Nat.le_refl 0) (Nat.le_refl 0) (e_2)

set_option maxRecDepth 10000 in
theorem c_0_put (l : Launch) {P O : Nat → Nat → Option Nat} (hP : laP P) (I A : Nat → Nat → Int32) (J : Nat → Nat → Int64) {pl : List Nat} (hB : inB pl) (p : Nat) (hk_p : kC p = 0) (hp_p : p ∈ pl) (hq_p : p + 1 ∈ pl) (a b v : Int32) (h : vp_in (a * 26 + b) 52) : Con l 1 yX0_put cX0_put 4 none [.ref p, .int a, .int b, .int v] (mC P O I A J) pl 0 0 (PC none P O I (up1 A (p + 1) (upd (A (p + 1)) (a * 26 + b).toNatClampNeg v)) J pl) := by
  refine Con.of (by decide) (Nat.le_of_ble_eq_true rfl) (fun X hX9 hn9 F E => ?_)
  refine r_0_put_0 F E hP hB hk_p hp_p hq_p ?_ ?_ <;> (clear F E hn9 hX9; (try clear X); first | exact h | exact ⟨rfl, rfl, rfl⟩)

theorem ix_a (m f : Nat) : nI m * 26 + nI f = nI (26 * m + f) := by rw [lit 26, pk_mul, nI_add, Nat.mul_comm]
theorem ix_o {m : Nat} (hm : m ≤ 1) : (1 : Int32) - nI m = nI (1 - m) := pk_sub (a := 1) hm
theorem bd_at {r : Nat → Int32} {B : Nat → Nat} (h : bdR r 0 B) {k : Nat} (hk : k < 52) : r k = nI (B k) := by have := (h k hk).1; rw [Nat.zero_add] at this; exact this
theorem bd_dec {r : Nat → Int32} {B : Nat → Nat} {k : Nat} (h : bdR r 0 B) (hk : k < 52) (h1 : 1 ≤ B k) : bdR (upd r k (r k - 1)) 0 (va_up B k (B k - 1)) := by
  have e : r k - 1 = nI (B k - 1) := by rw [bd_at h hk]; exact pk_sub (b := 1) h1
  have := bdR_up (k := k) (v := B k - 1) h (by have := (h k hk).2; omega)
  rw [Nat.zero_add] at this; rw [e]; exact this
theorem bd_inc {r : Nat → Int32} {B : Nat → Nat} {k : Nat} (h : bdR r 0 B) (hk : k < 52) (h1 : B k + 1 ≤ 30) : bdR (upd r k (r k + 1)) 0 (va_up B k (B k + 1)) := by
  have e : r k + 1 = nI (B k + 1) := by rw [bd_at h hk, nI_1]
  have := bdR_up (k := k) (v := B k + 1) h h1
  rw [Nat.zero_add] at this; rw [e]; exact this
theorem bd_cg {r : Nat → Int32} {B B' : Nat → Nat} (h : bdR r 0 B) (e : ∀ k, k < 52 → B k = B' k) : bdR r 0 B' := fun k hk => by rw [← e k hk]; exact h k hk
def hiN (B : Nat → Nat) (o : Nat) : Nat → Nat
  | 0 => 0
  | n + 1 => if B (o + (n + 1)) = 0 then hiN B o n else n + 1
theorem hi_le (B : Nat → Nat) (o : Nat) : ∀ n, hiN B o n ≤ n
  | 0 => Nat.le_refl _
  | n + 1 => by unfold hiN; split
                · have := hi_le B o n; omega
                · omega
theorem hi_up (B : Nat → Nat) (o : Nat) : ∀ n k, hiN B o n < k → k ≤ n → B (o + k) = 0
  | 0, k, h1, h2 => by omega
  | n + 1, k, h1, h2 => by
    unfold hiN at h1
    split at h1
    · rename_i h
      by_cases c : k = n + 1
      · rw [c]; exact h
      · exact hi_up B o n k h1 (by omega)
    · omega
theorem hi_in (B : Nat → Nat) (o : Nat) : ∀ n, hiN B o n ≠ 0 → B (o + hiN B o n) ≠ 0
  | 0, h => absurd rfl h
  | n + 1, h => by
    unfold hiN at h ⊢
    split
    · rename_i c
      rw [if_pos c] at h
      exact hi_in B o n h
    · rename_i c; exact c
theorem hi_ge {B : Nat → Nat} {o n k : Nat} (h : k ≤ n) (h0 : B (o + k) ≠ 0) : k ≤ hiN B o n := by
  rcases Nat.lt_or_ge (hiN B o n) k with c | c
  · exact absurd (hi_up B o n k c h) h0
  · exact c

theorem r_0_takeFromOff_0 {X : Ctx} (F : Fx X cX0_takeFromOff RX0 4 1 0 0) {Φ : Option Value → HS → List Nat → Prop} (E : Ex X none 0 0 Φ) {P O : Nat → Nat → Option Nat} (hP : laP P) {I A : Nat → Nat → Int32} {J : Nat → Nat → Int64} {pl : List Nat} (hB : inB pl) {x1 x2 x3 : Int32} {p : Nat} (hk_p : kC p = 0) (hp_p : p ∈ pl) (hq_p : p + 1 ∈ pl)
    (o_1 : vp_in ((x1 * 26) + 0) 52)
    (o_2 : vp_in ((x1 * 26) + 0) 52)
    (o_3 : vp_in ((x1 * 26) + x2) 52)
    (o_4 : vp_in ((x1 * 26) + x2) 52)
    (e_5 : Φ none (mC P O I (up1 (up1 A (p + 1) (upd (A (p + 1)) ((x1 * 26) + 0).toNatClampNeg ((A (p + 1) ((x1 * 26) + 0).toNatClampNeg) - x3))) (p + 1) (upd ((up1 A (p + 1) (upd (A (p + 1)) ((x1 * 26) + 0).toNatClampNeg ((A (p + 1) ((x1 * 26) + 0).toNatClampNeg) - x3))) (p + 1)) ((x1 * 26) + x2).toNatClampNeg (((up1 A (p + 1) (upd (A (p + 1)) ((x1 * 26) + 0).toNatClampNeg ((A (p + 1) ((x1 * 26) + 0).toNatClampNeg) - x3))) (p + 1) ((x1 * 26) + x2).toNatClampNeg) + x3))) J) pl) :
    WA X (mC P O I A J) pl 0 0 0 [(0, .ref p), (1, .int x1), (2, .int x2), (3, .int x3)] [] := by
  refine a_aload_n F 0 dX0_takeFromOff_0 rfl rfl ?_
  refine a_getr (b := (p + 1)) F fl_0_9 rfl (hp_p) hk_p (laP_bd hP hk_p) dX0_takeFromOff_1 ?_
  refine a_iload_n F 1 dX0_takeFromOff_4 rfl rfl ?_
  refine a_bipush (v := 26) F dX0_takeFromOff_5 (by decide) ?_
  refine a_imul F dX0_takeFromOff_7 ?_
  refine a_iconst (v := 0) F dX0_takeFromOff_8 (by decide) ?_
  refine a_iadd F dX0_takeFromOff_9 ?_
  refine a_dup2 F dX0_takeFromOff_10 rfl rfl ?_
  refine a_iald F (hq_p) (k_bd hk_p).1 (show vp_in _ (nC (p + 1)) from (k_bd hk_p).2 ▸ o_1) dX0_takeFromOff_11 ?_
  refine a_iload_n F 3 dX0_takeFromOff_12 rfl rfl ?_
  refine a_isub F dX0_takeFromOff_13 ?_
  refine a_iast F (hq_p) (k_bd hk_p).1 (show vp_in _ (nC (p + 1)) from (k_bd hk_p).2 ▸ o_2) dX0_takeFromOff_14 ?_
  refine a_aload_n F 0 dX0_takeFromOff_15 rfl rfl ?_
  refine a_getr (b := (p + 1)) F fl_0_9 rfl (hp_p) hk_p (laP_bd hP hk_p) dX0_takeFromOff_16 ?_
  refine a_iload_n F 1 dX0_takeFromOff_19 rfl rfl ?_
  refine a_bipush (v := 26) F dX0_takeFromOff_20 (by decide) ?_
  refine a_imul F dX0_takeFromOff_22 ?_
  refine a_iload_n F 2 dX0_takeFromOff_23 rfl rfl ?_
  refine a_iadd F dX0_takeFromOff_24 ?_
  refine a_dup2 F dX0_takeFromOff_25 rfl rfl ?_
  refine a_iald F (hq_p) (k_bd hk_p).1 (show vp_in _ (nC (p + 1)) from (k_bd hk_p).2 ▸ o_3) dX0_takeFromOff_26 ?_
  refine a_iload_n F 3 dX0_takeFromOff_27 rfl rfl ?_
  refine a_iadd F dX0_takeFromOff_28 ?_
  refine a_iast F (hq_p) (k_bd hk_p).1 (show vp_in _ (nC (p + 1)) from (k_bd hk_p).2 ▸ o_4) dX0_takeFromOff_29 ?_
  exact a_vret F E dX0_takeFromOff_30 (Nat.le_refl 0) (Nat.le_refl 0) (e_5)

set_option maxRecDepth 10000 in
theorem c_0_takeFromOff (l : Launch) {P O : Nat → Nat → Option Nat} (hP : laP P) (I A : Nat → Nat → Int32) (J : Nat → Nat → Int64) {pl : List Nat} (hB : inB pl) (p : Nat) (hk_p : kC p = 0) (hp_p : p ∈ pl) (hq_p : p + 1 ∈ pl) (a b v : Int32) (h : vp_in (a * 26 + 0) 52) (h2 : vp_in (a * 26 + b) 52) : Con l 1 yX0_takeFromOff cX0_takeFromOff 4 none [.ref p, .int a, .int b, .int v] (mC P O I A J) pl 0 0 (PC none P O I (up1 A (p + 1) (upd (upd (A (p + 1)) (a * 26 + 0).toNatClampNeg (A (p + 1) (a * 26 + 0).toNatClampNeg - v)) (a * 26 + b).toNatClampNeg (upd (A (p + 1)) (a * 26 + 0).toNatClampNeg (A (p + 1) (a * 26 + 0).toNatClampNeg - v) (a * 26 + b).toNatClampNeg + v))) J pl) := by
  refine Con.of (by decide) (Nat.le_of_ble_eq_true rfl) (fun X hX9 hn9 F E => ?_)
  refine r_0_takeFromOff_0 F E hP hB hk_p hp_p hq_p ?_ ?_ ?_ ?_ ?_ <;> (clear F E hn9 hX9; (try clear X); first | exact h | exact h2 | exact ⟨rfl, by rw [up1_up1, up1_s], rfl⟩)

theorem r_0_hasAllOff_0 {X : Ctx} (F : Fx X cX0_hasAllOff RX0 2 2 0 0) {Φ : Option Value → HS → List Nat → Prop} (E : Ex X (some .boolean) 0 0 Φ) {P O : Nat → Nat → Option Nat} (hP : laP P) {I A : Nat → Nat → Int32} {J : Nat → Nat → Int64} {pl : List Nat} (hB : inB pl) {x1 : Int32} {p : Nat} (hk_p : kC p = 0) (hp_p : p ∈ pl) (hq_p : p + 1 ∈ pl)
    (o_1 : vp_in (x1 * 26 + (0 : Int32)) 52)
    (e_2 : (¬ ((A (p + 1)) (x1 * 26 + (0 : Int32)).toNatClampNeg) = 15) → Φ (some (.int 0)) (mC P O I A J) pl)
    (e_3 : (((A (p + 1)) (x1 * 26 + (0 : Int32)).toNatClampNeg) = 15) → Φ (some (.int 1)) (mC P O I A J) pl) :
    WA X (mC P O I A J) pl 0 0 0 [(0, .ref p), (1, .int x1)] [] := by
  refine a_aload_n F 0 dX0_hasAllOff_0 rfl rfl ?_
  refine a_iload_n F 1 dX0_hasAllOff_1 rfl rfl ?_
  refine a_iconst (v := 0) F dX0_hasAllOff_2 (by decide) ?_
  refine a_callV (b := p) (As := [.int x1, .int 0]) (st := []) (ci := 0) F (c_0_count (xl X) hP I A J hB p hk_p (hp_p) (hq_p) x1 (0 : Int32) (o_1)) ml_0_47 im_yX0_count se_yX0_count (by decide) (by decide) rfl (hp_p) hk_p rfl dX0_hasAllOff_3 (by decide) (Nat.le_refl 0) (Nat.le_refl 0) (hl_r (hp_p) (hl_i hl_nil)) hs_nil ?_
  rintro _ _ _ ⟨rfl, rfl, rfl⟩ _
  show WA X (mC P O I A J) pl 0 0 6 [(0, .ref p), (1, .int x1)] [.int ((A (p + 1)) (x1 * 26 + (0 : Int32)).toNatClampNeg)]
  refine a_bipush (v := 15) F dX0_hasAllOff_6 (by decide) ?_
  refine a_icmp_ne (tgt := 15) F dX0_hasAllOff_8 (by decide) (fun (c_1 : ¬ ((A (p + 1)) (x1 * 26 + (0 : Int32)).toNatClampNeg) = 15) => ?_) (fun (c_1 : ((A (p + 1)) (x1 * 26 + (0 : Int32)).toNatClampNeg) = 15) => ?_)
  · refine a_iconst (v := 0) F dX0_hasAllOff_15 (by decide) ?_
    exact a_zret F E (by decide) dX0_hasAllOff_16 (Nat.le_refl 0) (Nat.le_refl 0) (e_2 c_1)
  · refine a_iconst (v := 1) F dX0_hasAllOff_11 (by decide) ?_
    refine a_goto (tgt := 16) F dX0_hasAllOff_12 (by decide) ?_
    exact a_zret F E (by decide) dX0_hasAllOff_16 (Nat.le_refl 0) (Nat.le_refl 0) (e_3 c_1)

set_option maxRecDepth 10000 in
theorem c_0_hasAllOff (l : Launch) {P O : Nat → Nat → Option Nat} (hP : laP P) (I A : Nat → Nat → Int32) (J : Nat → Nat → Int64) {pl : List Nat} (hB : inB pl) (p : Nat) (hk_p : kC p = 0) (hp_p : p ∈ pl) (hq_p : p + 1 ∈ pl) (a : Int32) (h : vp_in (a * 26 + 0) 52) : Con l 2 yX0_hasAllOff cX0_hasAllOff 2 (some .boolean) [.ref p, .int a] (mC P O I A J) pl 0 0 (PC (some (.int (if A (p + 1) (a * 26 + 0).toNatClampNeg = 15 then 1 else 0))) P O I A J pl) := by
  refine Con.of (by decide) (Nat.le_of_ble_eq_true rfl) (fun X hX9 hn9 F E => ?_)
  refine r_0_hasAllOff_0 F E hP hB hk_p hp_p hq_p ?_ ?_ ?_ <;> (clear F E hn9 hX9; (try clear X); first | exact h | (intro c; rw [if_neg c]; exact ⟨rfl, rfl, rfl⟩) | (intro c; rw [if_pos c]; exact ⟨rfl, rfl, rfl⟩))

theorem r_0_isOver_0 {X : Ctx} (F : Fx X cX0_isOver RX0 1 3 0 0) {Φ : Option Value → HS → List Nat → Prop} (E : Ex X (some .boolean) 0 0 Φ) {P O : Nat → Nat → Option Nat} (hP : laP P) {I A : Nat → Nat → Int32} {J : Nat → Nat → Int64} {pl : List Nat} (hB : inB pl) {p : Nat} (hk_p : kC p = 0) (hp_p : p ∈ pl) (hq_p : p + 1 ∈ pl)
    (o_1 : vp_in ((0 : Int32) * 26 + 0) 52)
    (e_2 : ((A (p + 1)) ((0 : Int32) * 26 + 0).toNatClampNeg = 15) → Φ (some (.int 1)) (mC P O I A J) pl)
    (o_3 : (¬ ((A (p + 1)) ((0 : Int32) * 26 + 0).toNatClampNeg = 15)) → vp_in ((1 : Int32) * 26 + 0) 52)
    (e_4 : (¬ ((A (p + 1)) ((0 : Int32) * 26 + 0).toNatClampNeg = 15)) → ((A (p + 1)) ((1 : Int32) * 26 + 0).toNatClampNeg = 15) → Φ (some (.int 1)) (mC P O I A J) pl)
    (e_5 : (¬ ((A (p + 1)) ((0 : Int32) * 26 + 0).toNatClampNeg = 15)) → (¬ ((A (p + 1)) ((1 : Int32) * 26 + 0).toNatClampNeg = 15)) → Φ (some (.int 0)) (mC P O I A J) pl) :
    WA X (mC P O I A J) pl 0 0 0 [(0, .ref p)] [] := by
  refine a_aload_n F 0 dX0_isOver_0 rfl rfl ?_
  refine a_iconst (v := 0) F dX0_isOver_1 (by decide) ?_
  refine a_callV (b := p) (As := [.int 0]) (st := []) (ci := 0) F (c_0_hasAllOff (xl X) hP I A J hB p hk_p (hp_p) (hq_p) (0 : Int32) (o_1)) ml_0_51 im_yX0_hasAllOff se_yX0_hasAllOff (by decide) (by decide) rfl (hp_p) hk_p rfl dX0_isOver_2 (by decide) (Nat.le_refl 0) (Nat.le_refl 0) (hl_r (hp_p) hl_nil) hs_nil ?_
  rintro _ _ _ ⟨rfl, rfl, rfl⟩ _
  show WA X (mC P O I A J) pl 0 0 5 [(0, .ref p)] [.int (if (A (p + 1)) ((0 : Int32) * 26 + 0).toNatClampNeg = 15 then 1 else 0)]
  refine a_ite (fun (c_1 : (A (p + 1)) ((0 : Int32) * 26 + 0).toNatClampNeg = 15) => ?_) (fun (c_1 : ¬ ((A (p + 1)) ((0 : Int32) * 26 + 0).toNatClampNeg = 15)) => ?_)
  · refine a_if_ne (tgt := 16) F dX0_isOver_5 (by decide) (fun (c_2 : ¬ (1 : Int32) = 0) => ?_) (fun (c_2 : (1 : Int32) = 0) => ?_)
    · refine a_iconst (v := 1) F dX0_isOver_16 (by decide) ?_
      refine a_goto (tgt := 21) F dX0_isOver_17 (by decide) ?_
      exact a_zret F E (by decide) dX0_isOver_21 (Nat.le_refl 0) (Nat.le_refl 0) (e_2 c_1)
    · exact absurd c_2 (by decide)
  · refine a_if_ne (tgt := 16) F dX0_isOver_5 (by decide) (fun (c_3 : ¬ (0 : Int32) = 0) => ?_) (fun (c_3 : (0 : Int32) = 0) => ?_)
    · exact absurd c_3 (by decide)
    · refine a_aload_n F 0 dX0_isOver_8 rfl rfl ?_
      refine a_iconst (v := 1) F dX0_isOver_9 (by decide) ?_
      refine a_callV (b := p) (As := [.int 1]) (st := []) (ci := 0) F (c_0_hasAllOff (xl X) hP I A J hB p hk_p (hp_p) (hq_p) (1 : Int32) (o_3 c_1)) ml_0_51 im_yX0_hasAllOff se_yX0_hasAllOff (by decide) (by decide) rfl (hp_p) hk_p rfl dX0_isOver_10 (by decide) (Nat.le_refl 0) (Nat.le_refl 0) (hl_r (hp_p) hl_nil) hs_nil ?_
      rintro _ _ _ ⟨rfl, rfl, rfl⟩ _
      show WA X (mC P O I A J) pl 0 0 13 [(0, .ref p)] [.int (if (A (p + 1)) ((1 : Int32) * 26 + 0).toNatClampNeg = 15 then 1 else 0)]
      refine a_ite (fun (c_4 : (A (p + 1)) ((1 : Int32) * 26 + 0).toNatClampNeg = 15) => ?_) (fun (c_4 : ¬ ((A (p + 1)) ((1 : Int32) * 26 + 0).toNatClampNeg = 15)) => ?_)
      · refine a_if_eq (tgt := 20) F dX0_isOver_13 (by decide) (fun (c_5 : (1 : Int32) = 0) => ?_) (fun (c_5 : ¬ ((1 : Int32) = 0)) => ?_)
        · exact absurd c_5 (by decide)
        · refine a_iconst (v := 1) F dX0_isOver_16 (by decide) ?_
          refine a_goto (tgt := 21) F dX0_isOver_17 (by decide) ?_
          exact a_zret F E (by decide) dX0_isOver_21 (Nat.le_refl 0) (Nat.le_refl 0) (e_4 c_1 c_4)
      · refine a_if_eq (tgt := 20) F dX0_isOver_13 (by decide) (fun (c_6 : (0 : Int32) = 0) => ?_) (fun (c_6 : ¬ ((0 : Int32) = 0)) => ?_)
        · refine a_iconst (v := 0) F dX0_isOver_20 (by decide) ?_
          exact a_zret F E (by decide) dX0_isOver_21 (Nat.le_refl 0) (Nat.le_refl 0) (e_5 c_1 c_4)
        · exact absurd c_6 (by decide)

set_option maxRecDepth 10000 in
theorem c_0_isOver (l : Launch) {P O : Nat → Nat → Option Nat} (hP : laP P) (I A : Nat → Nat → Int32) (J : Nat → Nat → Int64) {pl : List Nat} (hB : inB pl) (p : Nat) (hk_p : kC p = 0) (hp_p : p ∈ pl) (hq_p : p + 1 ∈ pl) : Con l 3 yX0_isOver cX0_isOver 1 (some .boolean) [.ref p] (mC P O I A J) pl 0 0 (PC (some (.int (if A (p + 1) 0 = 15 ∨ A (p + 1) 26 = 15 then 1 else 0))) P O I A J pl) := by
  refine Con.of (by decide) (Nat.le_of_ble_eq_true rfl) (fun X hX9 hn9 F E => ?_)
  have v0 : vp_in ((0 : Int32) * 26 + 0) 52 := vp_in_nI (n := 0) (by omega) (by omega)
  have v1 : vp_in ((1 : Int32) * 26 + 0) 52 := vp_in_nI (n := 26) (by omega) (by omega)
  have e0 : A (p + 1) ((0 : Int32) * 26 + 0).toNatClampNeg = A (p + 1) 0 := rfl
  have e1 : A (p + 1) ((1 : Int32) * 26 + 0).toNatClampNeg = A (p + 1) 26 := rfl
  refine r_0_isOver_0 F E hP hB hk_p hp_p hq_p v0 (fun c => ⟨by rw [if_pos (Or.inl (e0.symm.trans c))], rfl, rfl⟩) (fun _ => v1) (fun _ c => ⟨by rw [if_pos (Or.inr (e1.symm.trans c))], rfl, rfl⟩) (fun c1 c2 => ⟨by rw [if_neg (fun z => z.elim (fun y => c1 (e0.trans y)) (fun y => c2 (e1.trans y)))], rfl, rfl⟩)

theorem r_0_pips_0 {X : Ctx} (F : Fx X cX0_pips RX0 4 2 0 0) {P O : Nat → Nat → Option Nat} (hP : laP P) {I A : Nat → Nat → Int32} {J : Nat → Nat → Int64} {pl : List Nat} (hB : inB pl) {x1 : Int32} {p : Nat} (hk_p : kC p = 0) (hp_p : p ∈ pl) (hq_p : p + 1 ∈ pl)
    (e_1 : WA X (mC P O I A J) pl 0 0 4 [(0, .ref p), (1, .int x1), (2, .int 0), (3, .int 1)] []) :
    WA X (mC P O I A J) pl 0 0 0 [(0, .ref p), (1, .int x1)] [] := by
  refine a_iconst (v := 0) F dX0_pips_0 (by decide) ?_
  refine a_istore_n F dX0_pips_1 rfl (by decide) rfl ?_
  refine a_iconst (v := 1) F dX0_pips_2 (by decide) ?_
  refine a_istore_n F dX0_pips_3 rfl (by decide) rfl ?_
  refine a_sub [2, 3, 1, 0] rfl ?_
  exact e_1

theorem r_0_pips_4 {X : Ctx} (F : Fx X cX0_pips RX0 4 2 0 0) {Φ : Option Value → HS → List Nat → Prop} (E : Ex X (some .int) 0 0 Φ) {P O : Nat → Nat → Option Nat} (hP : laP P) {I A : Nat → Nat → Int32} {J : Nat → Nat → Int64} {pl : List Nat} (hB : inB pl) {x1 x2 x3 : Int32} {p : Nat} (hk_p : kC p = 0) (hp_p : p ∈ pl) (hq_p : p + 1 ∈ pl)
    (e_1 : (25 < x3) → Φ (some (.int x2)) (mC P O I A J) pl)
    (o_2 : (¬ (25 < x3)) → vp_in (x1 * 26 + x3) 52)
    (e_3 : (¬ (25 < x3)) → WA X (mC P O I A J) pl 0 0 4 [(0, .ref p), (1, .int x1), (2, .int (x2 + (x3 * ((A (p + 1)) (x1 * 26 + x3).toNatClampNeg)))), (3, .int (x3 + 1))] []) :
    WA X (mC P O I A J) pl 0 0 4 [(0, .ref p), (1, .int x1), (2, .int x2), (3, .int x3)] [] := by
  refine a_iload_n F 3 dX0_pips_4 rfl rfl ?_
  refine a_bipush (v := 25) F dX0_pips_5 (by decide) ?_
  refine a_icmp_gt (tgt := 27) F dX0_pips_7 (by decide) (fun (c_1 : 25 < x3) => ?_) (fun (c_1 : ¬ (25 < x3)) => ?_)
  · refine a_iload_n F 2 dX0_pips_27 rfl rfl ?_
    exact a_iret F E dX0_pips_28 (Nat.le_refl 0) (Nat.le_refl 0) (e_1 c_1)
  · refine a_iload_n F 2 dX0_pips_10 rfl rfl ?_
    refine a_iload_n F 3 dX0_pips_11 rfl rfl ?_
    refine a_aload_n F 0 dX0_pips_12 rfl rfl ?_
    refine a_iload_n F 1 dX0_pips_13 rfl rfl ?_
    refine a_iload_n F 3 dX0_pips_14 rfl rfl ?_
    refine a_callV (b := p) (As := [.int x1, .int x3]) (st := [.int x3, .int x2]) (ci := 0) F (c_0_count (xl X) hP I A J hB p hk_p (hp_p) (hq_p) x1 x3 (o_2 c_1)) ml_0_47 im_yX0_count se_yX0_count (by decide) (by decide) rfl (hp_p) hk_p rfl dX0_pips_15 (Nat.le_of_ble_eq_true rfl) (Nat.le_refl 0) (Nat.le_refl 0) (hl_r (hp_p) (hl_i (hl_i (hl_i hl_nil)))) (hs_i (hs_i hs_nil)) ?_
    rintro _ _ _ ⟨rfl, rfl, rfl⟩ _
    show WA X (mC P O I A J) pl 0 0 18 [(0, .ref p), (1, .int x1), (2, .int x2), (3, .int x3)] [.int ((A (p + 1)) (x1 * 26 + x3).toNatClampNeg), .int x3, .int x2]
    refine a_imul F dX0_pips_18 ?_
    refine a_iadd F dX0_pips_19 ?_
    refine a_istore_n F dX0_pips_20 rfl (by decide) rfl ?_
    refine a_iinc (v := x3 + 1) F 3 dX0_pips_21 rfl rfl (by decide) rfl ?_
    refine a_goto (tgt := 4) F dX0_pips_24 (by decide) ?_
    refine a_sub [2, 3, 1, 0] rfl ?_
    exact e_3 c_1

set_option maxRecDepth 10000 in
theorem c_0_pips (l : Launch) {P O : Nat → Nat → Option Nat} (hP : laP P) (I A : Nat → Nat → Int32) (J : Nat → Nat → Int64) {pl : List Nat} (hB : inB pl) (p : Nat) (hk_p : kC p = 0) (hp_p : p ∈ pl) (hq_p : p + 1 ∈ pl) (a : Nat) (ha : a ≤ 1) : Con l 2 yX0_pips cX0_pips 4 (some .int) [.ref p, .int (nI a)] (mC P O I A J) pl 0 0 (PC (some (.int (pipsF (A (p + 1)) a 25))) P O I A J pl) := by
  refine Con.of (by decide) (Nat.le_of_ble_eq_true rfl) (fun X hX9 hn9 F E => ?_)
  have lp : ∀ f k, k + f = 25 → WA X (mC P O I A J) pl 0 0 4 [(0, .ref p), (1, .int (nI a)), (2, .int (pipsF (A (p + 1)) a k)), (3, .int (nI (k + 1)))] [] := by
    intro f
    induction f with
    | zero =>
      intro k hk
      obtain rfl : k = 25 := by omega
      exact r_0_pips_4 F E hP hB hk_p hp_p hq_p (fun _ => ⟨rfl, rfl, rfl⟩) (fun z => absurd (by decide) z) (fun z => absurd (by decide) z)
    | succ f ih =>
      intro k hk
      have h : ¬ (25 : Int32) < nI (k + 1) := fun z => by have := (nI_gtn 25 (by omega) (by omega)).mp z; omega
      refine r_0_pips_4 F E hP hB hk_p hp_p hq_p (fun z => absurd z h) (fun _ => by rw [ix_a]; exact vp_in_nI (by omega) (by omega)) (fun _ => ?_)
      have e := ih (k + 1) (by omega)
      rw [ix_a, nI_clamp (by omega), nI_1]
      simp only [pipsF] at e
      exact e
  exact r_0_pips_0 F hP hB hk_p hp_p hq_p (lp 25 0 rfl)

theorem r_0_highest_0 {X : Ctx} (F : Fx X cX0_highest RX0 3 2 0 0) {P O : Nat → Nat → Option Nat} (hP : laP P) {I A : Nat → Nat → Int32} {J : Nat → Nat → Int64} {pl : List Nat} (hB : inB pl) {x1 : Int32} {p : Nat} (hk_p : kC p = 0) (hp_p : p ∈ pl) (hq_p : p + 1 ∈ pl)
    (e_1 : WA X (mC P O I A J) pl 0 0 3 [(0, .ref p), (1, .int x1), (2, .int 25)] []) :
    WA X (mC P O I A J) pl 0 0 0 [(0, .ref p), (1, .int x1)] [] := by
  refine a_bipush (v := 25) F dX0_highest_0 (by decide) ?_
  refine a_istore_n F dX0_highest_2 rfl (by decide) rfl ?_
  refine a_sub [1, 2, 0] rfl ?_
  exact e_1

theorem r_0_highest_3 {X : Ctx} (F : Fx X cX0_highest RX0 3 2 0 0) {Φ : Option Value → HS → List Nat → Prop} (E : Ex X (some .int) 0 0 Φ) {P O : Nat → Nat → Option Nat} (hP : laP P) {I A : Nat → Nat → Int32} {J : Nat → Nat → Int64} {pl : List Nat} (hB : inB pl) {x1 x2 : Int32} {p : Nat} (hk_p : kC p = 0) (hp_p : p ∈ pl) (hq_p : p + 1 ∈ pl)
    (e_1 : (x2 ≤ 0) → Φ (some (.int 0)) (mC P O I A J) pl)
    (o_2 : (¬ (x2 ≤ 0)) → vp_in (x1 * 26 + x2) 52)
    (e_3 : (¬ (x2 ≤ 0)) → (((A (p + 1)) (x1 * 26 + x2).toNatClampNeg) ≤ 0) → WA X (mC P O I A J) pl 0 0 3 [(0, .ref p), (1, .int x1), (2, .int (x2 + (-1)))] [])
    (e_4 : (¬ (x2 ≤ 0)) → (¬ (((A (p + 1)) (x1 * 26 + x2).toNatClampNeg) ≤ 0)) → Φ (some (.int x2)) (mC P O I A J) pl) :
    WA X (mC P O I A J) pl 0 0 3 [(0, .ref p), (1, .int x1), (2, .int x2)] [] := by
  refine a_iload_n F 2 dX0_highest_3 rfl rfl ?_
  refine a_if_le (tgt := 24) F dX0_highest_4 (by decide) (fun (c_1 : x2 ≤ 0) => ?_) (fun (c_1 : ¬ (x2 ≤ 0)) => ?_)
  · refine a_iconst (v := 0) F dX0_highest_24 (by decide) ?_
    exact a_iret F E dX0_highest_25 (Nat.le_refl 0) (Nat.le_refl 0) (e_1 c_1)
  · refine a_aload_n F 0 dX0_highest_7 rfl rfl ?_
    refine a_iload_n F 1 dX0_highest_8 rfl rfl ?_
    refine a_iload_n F 2 dX0_highest_9 rfl rfl ?_
    refine a_callV (b := p) (As := [.int x1, .int x2]) (st := []) (ci := 0) F (c_0_count (xl X) hP I A J hB p hk_p (hp_p) (hq_p) x1 x2 (o_2 c_1)) ml_0_47 im_yX0_count se_yX0_count (by decide) (by decide) rfl (hp_p) hk_p rfl dX0_highest_10 (by decide) (Nat.le_refl 0) (Nat.le_refl 0) (hl_r (hp_p) (hl_i (hl_i hl_nil))) hs_nil ?_
    rintro _ _ _ ⟨rfl, rfl, rfl⟩ _
    show WA X (mC P O I A J) pl 0 0 13 [(0, .ref p), (1, .int x1), (2, .int x2)] [.int ((A (p + 1)) (x1 * 26 + x2).toNatClampNeg)]
    refine a_if_le (tgt := 18) F dX0_highest_13 (by decide) (fun (c_2 : ((A (p + 1)) (x1 * 26 + x2).toNatClampNeg) ≤ 0) => ?_) (fun (c_2 : ¬ (((A (p + 1)) (x1 * 26 + x2).toNatClampNeg) ≤ 0)) => ?_)
    · refine a_iinc (v := x2 + (-1)) F 2 dX0_highest_18 rfl rfl (by decide) rfl ?_
      refine a_goto (tgt := 3) F dX0_highest_21 (by decide) ?_
      refine a_sub [1, 2, 0] rfl ?_
      exact e_3 c_1 c_2
    · refine a_iload_n F 2 dX0_highest_16 rfl rfl ?_
      exact a_iret F E dX0_highest_17 (Nat.le_refl 0) (Nat.le_refl 0) (e_4 c_1 c_2)

set_option maxRecDepth 10000 in
theorem c_0_highest (l : Launch) {P O : Nat → Nat → Option Nat} (hP : laP P) (I A : Nat → Nat → Int32) (J : Nat → Nat → Int64) {pl : List Nat} (hB : inB pl) (p : Nat) (hk_p : kC p = 0) (hp_p : p ∈ pl) (hq_p : p + 1 ∈ pl) (a : Nat) (B : Nat → Nat) (ha : a ≤ 1) (hb : bdR (A (p + 1)) 0 B) : Con l 2 yX0_highest cX0_highest 3 (some .int) [.ref p, .int (nI a)] (mC P O I A J) pl 0 0 (PC (some (.int (nI (hiN B (26 * a) 25)))) P O I A J pl) := by
  refine Con.of (by decide) (Nat.le_of_ble_eq_true rfl) (fun X hX9 hn9 F E => ?_)
  have lp : ∀ k, k ≤ 25 → hiN B (26 * a) 25 = hiN B (26 * a) k → WA X (mC P O I A J) pl 0 0 3 [(0, .ref p), (1, .int (nI a)), (2, .int (nI k))] [] := by
    intro k
    induction k with
    | zero =>
      intro _ he
      have h : nI 0 ≤ 0 := by decide
      exact r_0_highest_3 F E hP hB hk_p hp_p hq_p (fun _ => by rw [he]; exact ⟨rfl, rfl, rfl⟩) (fun z => absurd h z) (fun z => absurd h z) (fun z => absurd h z)
    | succ k ih =>
      intro hk he
      have h : ¬ nI (k + 1) ≤ 0 := fun z => by have := (nI_le0 (by omega)).mp z; omega
      have hb9 := (hb (26 * a + (k + 1)) (by omega)).2
      have e9 : A (p + 1) (26 * a + (k + 1)) = nI (B (26 * a + (k + 1))) := bd_at hb (by omega)
      have c9 : A (p + 1) (nI a * 26 + nI (k + 1)).toNatClampNeg ≤ 0 ↔ B (26 * a + (k + 1)) = 0 := by
        rw [ix_a, nI_clamp (by omega), e9]; exact nI_le0 (by omega)
      refine r_0_highest_3 F E hP hB hk_p hp_p hq_p (fun z => absurd z h) (fun _ => by rw [ix_a]; exact vp_in_nI (by omega) (by omega)) (fun _ z => ?_) (fun _ z => ?_)
      · rw [nI_m1]
        refine ih (by omega) (he.trans ?_)
        show (if _ then _ else _) = _
        rw [if_pos (c9.mp z)]
      · have : hiN B (26 * a) 25 = k + 1 := he.trans (by show (if _ then _ else _) = _; rw [if_neg (fun y => z (c9.mpr y))])
        rw [this]; exact ⟨rfl, rfl, rfl⟩
  exact r_0_highest_0 F hP hB hk_p hp_p hq_p (lp 25 (Nat.le_refl _) rfl)

theorem r_0_canMove_0 {X : Ctx} (F : Fx X cX0_canMove RX0 5 3 0 0) {Φ : Option Value → HS → List Nat → Prop} (E : Ex X (some .boolean) 0 0 Φ) {P O : Nat → Nat → Option Nat} (hP : laP P) {I A : Nat → Nat → Int32} {J : Nat → Nat → Int64} {pl : List Nat} (hB : inB pl) {x1 x2 : Int32} {p : Nat} (hk_p : kC p = 0) (hp_p : p ∈ pl) (hq_p : p + 1 ∈ pl)
    (e_1 : (x1 < 1) → Φ (some (.int 0)) (mC P O I A J) pl)
    (e_2 : (¬ (x1 < 1)) → (25 < x1) → Φ (some (.int 0)) (mC P O I A J) pl)
    (o_3 : (¬ (x1 < 1)) → (¬ (25 < x1)) → vp_in ((I p 1) * 26 + x1) 52)
    (e_4 : (¬ (x1 < 1)) → (¬ (25 < x1)) → (¬ ((A (p + 1)) ((I p 1) * 26 + x1).toNatClampNeg) = 0) → (x1 = 25) → ((x1 - x2) ≤ 0) → WA X (mC P O I A J) pl 0 0 78 [(0, .ref p), (1, .int x1), (2, .int x2), (3, .int (x1 - x2))] [])
    (o_5 : (¬ (x1 < 1)) → (¬ (25 < x1)) → (¬ ((A (p + 1)) ((I p 1) * 26 + x1).toNatClampNeg) = 0) → (x1 = 25) → (¬ ((x1 - x2) ≤ 0)) → vp_in ((1 - (I p 1)) * 26 + (25 - (x1 - x2))) 52)
    (e_6 : (¬ (x1 < 1)) → (¬ (25 < x1)) → (¬ ((A (p + 1)) ((I p 1) * 26 + x1).toNatClampNeg) = 0) → (x1 = 25) → (¬ ((x1 - x2) ≤ 0)) → (1 < ((A (p + 1)) ((1 - (I p 1)) * 26 + (25 - (x1 - x2))).toNatClampNeg)) → Φ (some (.int 0)) (mC P O I A J) pl)
    (e_7 : (¬ (x1 < 1)) → (¬ (25 < x1)) → (¬ ((A (p + 1)) ((I p 1) * 26 + x1).toNatClampNeg) = 0) → (x1 = 25) → (¬ ((x1 - x2) ≤ 0)) → (¬ (1 < ((A (p + 1)) ((1 - (I p 1)) * 26 + (25 - (x1 - x2))).toNatClampNeg))) → Φ (some (.int 1)) (mC P O I A J) pl)
    (o_8 : (¬ (x1 < 1)) → (¬ (25 < x1)) → (¬ ((A (p + 1)) ((I p 1) * 26 + x1).toNatClampNeg) = 0) → (¬ (x1 = 25)) → vp_in ((I p 1) * 26 + (25 : Int32)) 52)
    (e_9 : (¬ (x1 < 1)) → (¬ (25 < x1)) → (¬ ((A (p + 1)) ((I p 1) * 26 + x1).toNatClampNeg) = 0) → (¬ (x1 = 25)) → (((A (p + 1)) ((I p 1) * 26 + (25 : Int32)).toNatClampNeg) ≤ 0) → ((x1 - x2) ≤ 0) → WA X (mC P O I A J) pl 0 0 78 [(0, .ref p), (1, .int x1), (2, .int x2), (3, .int (x1 - x2))] [])
    (o_10 : (¬ (x1 < 1)) → (¬ (25 < x1)) → (¬ ((A (p + 1)) ((I p 1) * 26 + x1).toNatClampNeg) = 0) → (¬ (x1 = 25)) → (((A (p + 1)) ((I p 1) * 26 + (25 : Int32)).toNatClampNeg) ≤ 0) → (¬ ((x1 - x2) ≤ 0)) → vp_in ((1 - (I p 1)) * 26 + (25 - (x1 - x2))) 52)
    (e_11 : (¬ (x1 < 1)) → (¬ (25 < x1)) → (¬ ((A (p + 1)) ((I p 1) * 26 + x1).toNatClampNeg) = 0) → (¬ (x1 = 25)) → (((A (p + 1)) ((I p 1) * 26 + (25 : Int32)).toNatClampNeg) ≤ 0) → (¬ ((x1 - x2) ≤ 0)) → (1 < ((A (p + 1)) ((1 - (I p 1)) * 26 + (25 - (x1 - x2))).toNatClampNeg)) → Φ (some (.int 0)) (mC P O I A J) pl)
    (e_12 : (¬ (x1 < 1)) → (¬ (25 < x1)) → (¬ ((A (p + 1)) ((I p 1) * 26 + x1).toNatClampNeg) = 0) → (¬ (x1 = 25)) → (((A (p + 1)) ((I p 1) * 26 + (25 : Int32)).toNatClampNeg) ≤ 0) → (¬ ((x1 - x2) ≤ 0)) → (¬ (1 < ((A (p + 1)) ((1 - (I p 1)) * 26 + (25 - (x1 - x2))).toNatClampNeg))) → Φ (some (.int 1)) (mC P O I A J) pl)
    (e_13 : (¬ (x1 < 1)) → (¬ (25 < x1)) → (¬ ((A (p + 1)) ((I p 1) * 26 + x1).toNatClampNeg) = 0) → (¬ (x1 = 25)) → (¬ (((A (p + 1)) ((I p 1) * 26 + (25 : Int32)).toNatClampNeg) ≤ 0)) → Φ (some (.int 0)) (mC P O I A J) pl)
    (e_14 : (¬ (x1 < 1)) → (¬ (25 < x1)) → (((A (p + 1)) ((I p 1) * 26 + x1).toNatClampNeg) = 0) → Φ (some (.int 0)) (mC P O I A J) pl) :
    WA X (mC P O I A J) pl 0 0 0 [(0, .ref p), (1, .int x1), (2, .int x2)] [] := by
  refine a_iload_n F 1 dX0_canMove_0 rfl rfl ?_
  refine a_iconst (v := 1) F dX0_canMove_1 (by decide) ?_
  refine a_icmp_lt (tgt := 23) F dX0_canMove_2 (by decide) (fun (c_1 : x1 < 1) => ?_) (fun (c_1 : ¬ (x1 < 1)) => ?_)
  · refine a_iconst (v := 0) F dX0_canMove_23 (by decide) ?_
    exact a_zret F E (by decide) dX0_canMove_24 (Nat.le_refl 0) (Nat.le_refl 0) (e_1 c_1)
  · refine a_iload_n F 1 dX0_canMove_5 rfl rfl ?_
    refine a_bipush (v := 25) F dX0_canMove_6 (by decide) ?_
    refine a_icmp_gt (tgt := 23) F dX0_canMove_8 (by decide) (fun (c_2 : 25 < x1) => ?_) (fun (c_2 : ¬ (25 < x1)) => ?_)
    · refine a_iconst (v := 0) F dX0_canMove_23 (by decide) ?_
      exact a_zret F E (by decide) dX0_canMove_24 (Nat.le_refl 0) (Nat.le_refl 0) (e_2 c_1 c_2)
    · refine a_aload_n F 0 dX0_canMove_11 rfl rfl ?_
      refine a_aload_n F 0 dX0_canMove_12 rfl rfl ?_
      refine a_geti F fl_0_25 rfl (hp_p) hk_p dX0_canMove_13 ?_
      refine a_iload_n F 1 dX0_canMove_16 rfl rfl ?_
      refine a_callV (b := p) (As := [.int (I p 1), .int x1]) (st := []) (ci := 0) F (c_0_count (xl X) hP I A J hB p hk_p (hp_p) (hq_p) (I p 1) x1 (o_3 c_1 c_2)) ml_0_47 im_yX0_count se_yX0_count (by decide) (by decide) rfl (hp_p) hk_p rfl dX0_canMove_17 (by decide) (Nat.le_refl 0) (Nat.le_refl 0) (hl_r (hp_p) (hl_i (hl_i hl_nil))) hs_nil ?_
      rintro _ _ _ ⟨rfl, rfl, rfl⟩ _
      show WA X (mC P O I A J) pl 0 0 20 [(0, .ref p), (1, .int x1), (2, .int x2)] [.int ((A (p + 1)) ((I p 1) * 26 + x1).toNatClampNeg)]
      refine a_if_ne (tgt := 25) F dX0_canMove_20 (by decide) (fun (c_3 : ¬ ((A (p + 1)) ((I p 1) * 26 + x1).toNatClampNeg) = 0) => ?_) (fun (c_3 : ((A (p + 1)) ((I p 1) * 26 + x1).toNatClampNeg) = 0) => ?_)
      · refine a_iload_n F 1 dX0_canMove_25 rfl rfl ?_
        refine a_bipush (v := 25) F dX0_canMove_26 (by decide) ?_
        refine a_icmp_eq (tgt := 46) F dX0_canMove_28 (by decide) (fun (c_4 : x1 = 25) => ?_) (fun (c_4 : ¬ (x1 = 25)) => ?_)
        · refine a_iload_n F 1 dX0_canMove_46 rfl rfl ?_
          refine a_iload_n F 2 dX0_canMove_47 rfl rfl ?_
          refine a_isub F dX0_canMove_48 ?_
          refine a_istore_n F dX0_canMove_49 rfl (by decide) rfl ?_
          refine a_iload_n F 0 dX0_canMove_50 rfl rfl ?_
          refine a_if_le (tgt := 78) F dX0_canMove_51 (by decide) (fun (c_5 : (x1 - x2) ≤ 0) => ?_) (fun (c_5 : ¬ ((x1 - x2) ≤ 0)) => ?_)
          · refine a_sub [1, 2, 3, 0] rfl ?_
            exact e_4 c_1 c_2 c_3 c_4 c_5
          · refine a_aload_n F 1 dX0_canMove_54 rfl rfl ?_
            refine a_iconst (v := 1) F dX0_canMove_55 (by decide) ?_
            refine a_aload_n F 1 dX0_canMove_56 rfl rfl ?_
            refine a_geti F fl_0_25 rfl (hp_p) hk_p dX0_canMove_57 ?_
            refine a_isub F dX0_canMove_60 ?_
            refine a_bipush (v := 25) F dX0_canMove_61 (by decide) ?_
            refine a_iload_n F 0 dX0_canMove_63 rfl rfl ?_
            refine a_isub F dX0_canMove_64 ?_
            refine a_callV (b := p) (As := [.int (1 - (I p 1)), .int (25 - (x1 - x2))]) (st := []) (ci := 0) F (c_0_count (xl X) hP I A J hB p hk_p (hp_p) (hq_p) (1 - (I p 1)) (25 - (x1 - x2)) (o_5 c_1 c_2 c_3 c_4 c_5)) ml_0_47 im_yX0_count se_yX0_count (by decide) (by decide) rfl (hp_p) hk_p rfl dX0_canMove_65 (by decide) (Nat.le_refl 0) (Nat.le_refl 0) (hl_i (hl_r (hp_p) (hl_i (hl_i hl_nil)))) hs_nil ?_
            rintro _ _ _ ⟨rfl, rfl, rfl⟩ _
            show WA X (mC P O I A J) pl 0 0 68 [(3, .int (x1 - x2)), (0, .ref p), (1, .int x1), (2, .int x2)] [.int ((A (p + 1)) ((1 - (I p 1)) * 26 + (25 - (x1 - x2))).toNatClampNeg)]
            refine a_iconst (v := 1) F dX0_canMove_68 (by decide) ?_
            refine a_icmp_gt (tgt := 76) F dX0_canMove_69 (by decide) (fun (c_6 : 1 < ((A (p + 1)) ((1 - (I p 1)) * 26 + (25 - (x1 - x2))).toNatClampNeg)) => ?_) (fun (c_6 : ¬ (1 < ((A (p + 1)) ((1 - (I p 1)) * 26 + (25 - (x1 - x2))).toNatClampNeg))) => ?_)
            · refine a_iconst (v := 0) F dX0_canMove_76 (by decide) ?_
              exact a_zret F E (by decide) dX0_canMove_77 (Nat.le_refl 0) (Nat.le_refl 0) (e_6 c_1 c_2 c_3 c_4 c_5 c_6)
            · refine a_iconst (v := 1) F dX0_canMove_72 (by decide) ?_
              refine a_goto (tgt := 77) F dX0_canMove_73 (by decide) ?_
              exact a_zret F E (by decide) dX0_canMove_77 (Nat.le_refl 0) (Nat.le_refl 0) (e_7 c_1 c_2 c_3 c_4 c_5 c_6)
        · refine a_aload_n F 0 dX0_canMove_31 rfl rfl ?_
          refine a_aload_n F 0 dX0_canMove_32 rfl rfl ?_
          refine a_geti F fl_0_25 rfl (hp_p) hk_p dX0_canMove_33 ?_
          refine a_bipush (v := 25) F dX0_canMove_36 (by decide) ?_
          refine a_callV (b := p) (As := [.int (I p 1), .int 25]) (st := []) (ci := 0) F (c_0_count (xl X) hP I A J hB p hk_p (hp_p) (hq_p) (I p 1) (25 : Int32) (o_8 c_1 c_2 c_3 c_4)) ml_0_47 im_yX0_count se_yX0_count (by decide) (by decide) rfl (hp_p) hk_p rfl dX0_canMove_38 (by decide) (Nat.le_refl 0) (Nat.le_refl 0) (hl_r (hp_p) (hl_i (hl_i hl_nil))) hs_nil ?_
          rintro _ _ _ ⟨rfl, rfl, rfl⟩ _
          show WA X (mC P O I A J) pl 0 0 41 [(0, .ref p), (1, .int x1), (2, .int x2)] [.int ((A (p + 1)) ((I p 1) * 26 + (25 : Int32)).toNatClampNeg)]
          refine a_if_le (tgt := 46) F dX0_canMove_41 (by decide) (fun (c_7 : ((A (p + 1)) ((I p 1) * 26 + (25 : Int32)).toNatClampNeg) ≤ 0) => ?_) (fun (c_7 : ¬ (((A (p + 1)) ((I p 1) * 26 + (25 : Int32)).toNatClampNeg) ≤ 0)) => ?_)
          · refine a_iload_n F 1 dX0_canMove_46 rfl rfl ?_
            refine a_iload_n F 2 dX0_canMove_47 rfl rfl ?_
            refine a_isub F dX0_canMove_48 ?_
            refine a_istore_n F dX0_canMove_49 rfl (by decide) rfl ?_
            refine a_iload_n F 0 dX0_canMove_50 rfl rfl ?_
            refine a_if_le (tgt := 78) F dX0_canMove_51 (by decide) (fun (c_8 : (x1 - x2) ≤ 0) => ?_) (fun (c_8 : ¬ ((x1 - x2) ≤ 0)) => ?_)
            · refine a_sub [1, 2, 3, 0] rfl ?_
              exact e_9 c_1 c_2 c_3 c_4 c_7 c_8
            · refine a_aload_n F 1 dX0_canMove_54 rfl rfl ?_
              refine a_iconst (v := 1) F dX0_canMove_55 (by decide) ?_
              refine a_aload_n F 1 dX0_canMove_56 rfl rfl ?_
              refine a_geti F fl_0_25 rfl (hp_p) hk_p dX0_canMove_57 ?_
              refine a_isub F dX0_canMove_60 ?_
              refine a_bipush (v := 25) F dX0_canMove_61 (by decide) ?_
              refine a_iload_n F 0 dX0_canMove_63 rfl rfl ?_
              refine a_isub F dX0_canMove_64 ?_
              refine a_callV (b := p) (As := [.int (1 - (I p 1)), .int (25 - (x1 - x2))]) (st := []) (ci := 0) F (c_0_count (xl X) hP I A J hB p hk_p (hp_p) (hq_p) (1 - (I p 1)) (25 - (x1 - x2)) (o_10 c_1 c_2 c_3 c_4 c_7 c_8)) ml_0_47 im_yX0_count se_yX0_count (by decide) (by decide) rfl (hp_p) hk_p rfl dX0_canMove_65 (by decide) (Nat.le_refl 0) (Nat.le_refl 0) (hl_i (hl_r (hp_p) (hl_i (hl_i hl_nil)))) hs_nil ?_
              rintro _ _ _ ⟨rfl, rfl, rfl⟩ _
              show WA X (mC P O I A J) pl 0 0 68 [(3, .int (x1 - x2)), (0, .ref p), (1, .int x1), (2, .int x2)] [.int ((A (p + 1)) ((1 - (I p 1)) * 26 + (25 - (x1 - x2))).toNatClampNeg)]
              refine a_iconst (v := 1) F dX0_canMove_68 (by decide) ?_
              refine a_icmp_gt (tgt := 76) F dX0_canMove_69 (by decide) (fun (c_9 : 1 < ((A (p + 1)) ((1 - (I p 1)) * 26 + (25 - (x1 - x2))).toNatClampNeg)) => ?_) (fun (c_9 : ¬ (1 < ((A (p + 1)) ((1 - (I p 1)) * 26 + (25 - (x1 - x2))).toNatClampNeg))) => ?_)
              · refine a_iconst (v := 0) F dX0_canMove_76 (by decide) ?_
                exact a_zret F E (by decide) dX0_canMove_77 (Nat.le_refl 0) (Nat.le_refl 0) (e_11 c_1 c_2 c_3 c_4 c_7 c_8 c_9)
              · refine a_iconst (v := 1) F dX0_canMove_72 (by decide) ?_
                refine a_goto (tgt := 77) F dX0_canMove_73 (by decide) ?_
                exact a_zret F E (by decide) dX0_canMove_77 (Nat.le_refl 0) (Nat.le_refl 0) (e_12 c_1 c_2 c_3 c_4 c_7 c_8 c_9)
          · refine a_iconst (v := 0) F dX0_canMove_44 (by decide) ?_
            exact a_zret F E (by decide) dX0_canMove_45 (Nat.le_refl 0) (Nat.le_refl 0) (e_13 c_1 c_2 c_3 c_4 c_7)
      · refine a_iconst (v := 0) F dX0_canMove_23 (by decide) ?_
        exact a_zret F E (by decide) dX0_canMove_24 (Nat.le_refl 0) (Nat.le_refl 0) (e_14 c_1 c_2 c_3)

theorem r_0_canMove_78 {X : Ctx} (F : Fx X cX0_canMove RX0 5 3 0 0) {P O : Nat → Nat → Option Nat} (hP : laP P) {I A : Nat → Nat → Int32} {J : Nat → Nat → Int64} {pl : List Nat} (hB : inB pl) {x1 x2 x3 : Int32} {p : Nat} (hk_p : kC p = 0) (hp_p : p ∈ pl) (hq_p : p + 1 ∈ pl)
    (e_1 : WA X (mC P O I A J) pl 0 0 83 [(0, .ref p), (1, .int x1), (2, .int x2), (3, .int x3)] [.int (I p 1), .ref p]) :
    WA X (mC P O I A J) pl 0 0 78 [(0, .ref p), (1, .int x1), (2, .int x2), (3, .int x3)] [] := by
  refine a_aload_n F 0 dX0_canMove_78 rfl rfl ?_
  refine a_aload_n F 0 dX0_canMove_79 rfl rfl ?_
  refine a_geti F fl_0_25 rfl (hp_p) hk_p dX0_canMove_80 ?_
  exact e_1

theorem r_0_canMove_88 {X : Ctx} (F : Fx X cX0_canMove RX0 5 3 0 0) {Φ : Option Value → HS → List Nat → Prop} (E : Ex X (some .boolean) 0 0 Φ) {P O : Nat → Nat → Option Nat} (hP : laP P) {I A : Nat → Nat → Int32} {J : Nat → Nat → Int64} {pl : List Nat} (hB : inB pl) {x1 x2 x3 x4 : Int32} {p : Nat} (hk_p : kC p = 0) (hp_p : p ∈ pl) (hq_p : p + 1 ∈ pl)
    (e_1 : (6 < x4) → Φ (some (.int 0)) (mC P O I A J) pl)
    (e_2 : (¬ (6 < x4)) → (x3 = 0) → Φ (some (.int 1)) (mC P O I A J) pl)
    (e_3 : (¬ (6 < x4)) → (¬ (x3 = 0)) → (¬ x4 = x1) → Φ (some (.int 0)) (mC P O I A J) pl)
    (e_4 : (¬ (6 < x4)) → (¬ (x3 = 0)) → (x4 = x1) → Φ (some (.int 1)) (mC P O I A J) pl) :
    WA X (mC P O I A J) pl 0 0 88 [(0, .ref p), (1, .int x1), (2, .int x2), (3, .int x3), (4, .int x4)] [] := by
  refine a_iload F 4 dX0_canMove_88 rfl ?_
  refine a_bipush (v := 6) F dX0_canMove_90 (by decide) ?_
  refine a_icmp_gt (tgt := 109) F dX0_canMove_92 (by decide) (fun (c_10 : 6 < x4) => ?_) (fun (c_10 : ¬ (6 < x4)) => ?_)
  · refine a_iconst (v := 0) F dX0_canMove_109 (by decide) ?_
    exact a_zret F E (by decide) dX0_canMove_110 (Nat.le_refl 0) (Nat.le_refl 0) (e_1 c_10)
  · refine a_iload_n F 3 dX0_canMove_95 rfl rfl ?_
    refine a_if_eq (tgt := 105) F dX0_canMove_96 (by decide) (fun (c_11 : x3 = 0) => ?_) (fun (c_11 : ¬ (x3 = 0)) => ?_)
    · refine a_iconst (v := 1) F dX0_canMove_105 (by decide) ?_
      refine a_goto (tgt := 110) F dX0_canMove_106 (by decide) ?_
      exact a_zret F E (by decide) dX0_canMove_110 (Nat.le_refl 0) (Nat.le_refl 0) (e_2 c_10 c_11)
    · refine a_iload F 4 dX0_canMove_99 rfl ?_
      refine a_iload_n F 1 dX0_canMove_101 rfl rfl ?_
      refine a_icmp_ne (tgt := 109) F dX0_canMove_102 (by decide) (fun (c_12 : ¬ x4 = x1) => ?_) (fun (c_12 : x4 = x1) => ?_)
      · refine a_iconst (v := 0) F dX0_canMove_109 (by decide) ?_
        exact a_zret F E (by decide) dX0_canMove_110 (Nat.le_refl 0) (Nat.le_refl 0) (e_3 c_10 c_11 c_12)
      · refine a_iconst (v := 1) F dX0_canMove_105 (by decide) ?_
        refine a_goto (tgt := 110) F dX0_canMove_106 (by decide) ?_
        exact a_zret F E (by decide) dX0_canMove_110 (Nat.le_refl 0) (Nat.le_refl 0) (e_4 c_10 c_11 c_12)

set_option maxRecDepth 10000 in
theorem c_0_canMove (l : Launch) {P O : Nat → Nat → Option Nat} (hP : laP P) (I A : Nat → Nat → Int32) (J : Nat → Nat → Int64) {pl : List Nat} (hB : inB pl) (p : Nat) (hk_p : kC p = 0) (hp_p : p ∈ pl) (hq_p : p + 1 ∈ pl) (f d m : Nat) (B : Nat → Nat) (hf : f ≤ 25) (hd1 : 1 ≤ d) (hd : d ≤ 6) (hm : m ≤ 1) (hI : I p 1 = nI m) (hb : bdR (A (p + 1)) 0 B) : Con l 3 yX0_canMove cX0_canMove 5 (some .boolean) [.ref p, .int (nI f), .int (nI d)] (mC P O I A J) pl 0 0 (PC (some (.int (@ite Int32 (1 ≤ f ∧ cmP B m f d) (Classical.propDecidable _) 1 0))) P O I A J pl) := by
  refine Con.of (by decide) (Nat.le_of_ble_eq_true rfl) (fun X hX9 hn9 F E => ?_)
  have bl : ∀ k, k < 52 → B k ≤ 30 := fun k hk => (hb k hk).2
  have no : ¬ (1 ≤ f ∧ cmP B m f d) → PC (some (.int (@ite Int32 (1 ≤ f ∧ cmP B m f d) (Classical.propDecidable _) 1 0))) P O I A J pl (some (.int 0)) (mC P O I A J) pl := fun z => ⟨by rw [if_neg z], rfl, rfl⟩
  have yes : 1 ≤ f → cmP B m f d → PC (some (.int (@ite Int32 (1 ≤ f ∧ cmP B m f d) (Classical.propDecidable _) 1 0))) P O I A J pl (some (.int 1)) (mC P O I A J) pl := fun y z => ⟨by rw [if_pos ⟨y, z⟩], rfl, rfl⟩
  have c1 : nI f < 1 ↔ f = 0 := by rw [show nI f < 1 ↔ f < 1 from nI_ltn 1 (by omega) (by omega)]; omega
  by_cases f0 : f = 0
  · exact r_0_canMove_0 F E hP hB hk_p hp_p hq_p (fun _ => no (fun z => by omega)) (fun z => absurd (c1.mpr f0) z) (fun z => absurd (c1.mpr f0) z) (fun z => absurd (c1.mpr f0) z) (fun z => absurd (c1.mpr f0) z) (fun z => absurd (c1.mpr f0) z) (fun z => absurd (c1.mpr f0) z) (fun z => absurd (c1.mpr f0) z) (fun z => absurd (c1.mpr f0) z) (fun z => absurd (c1.mpr f0) z) (fun z => absurd (c1.mpr f0) z) (fun z => absurd (c1.mpr f0) z) (fun z => absurd (c1.mpr f0) z) (fun z => absurd (c1.mpr f0) z)
  have n25 : ¬ (25 : Int32) < nI f := fun z => by have := (nI_gtn 25 (by omega) (by omega)).mp z; omega
  have iF : I p 1 * 26 + nI f = nI (26 * m + f) := by rw [hI, ix_a]
  have i25 : I p 1 * 26 + (25 : Int32) = nI (26 * m + 25) := by rw [hI]; exact ix_a m 25
  have eF : A (p + 1) (nI (26 * m + f)).toNatClampNeg = nI (B (26 * m + f)) := by rw [nI_clamp (by omega)]; exact bd_at hb (by omega)
  have e25 : A (p + 1) (nI (26 * m + 25)).toNatClampNeg = nI (B (26 * m + 25)) := by rw [nI_clamp (by omega)]; exact bd_at hb (by omega)
  have bF := bl (26 * m + f) (by omega)
  have b25 := bl (26 * m + 25) (by omega)
  have cF : A (p + 1) (I p 1 * 26 + nI f).toNatClampNeg = 0 ↔ B (26 * m + f) = 0 := by rw [iF, eF]; exact nI_z (by omega)
  have c25 : A (p + 1) (I p 1 * 26 + (25 : Int32)).toNatClampNeg ≤ 0 ↔ B (26 * m + 25) = 0 := by rw [i25, e25]; exact nI_le0 (by omega)
  have cf : nI f = 25 ↔ f = 25 := nI_eqn 25 (by omega) (by omega)
  -- the road off
  have off : ¬ d < f → B (26 * m + f) ≠ 0 → ¬ (f < 25 ∧ 0 < B (26 * m + 25)) → WA X (mC P O I A J) pl 0 0 78 [(0, .ref p), (1, .int (nI f)), (2, .int (nI d)), (3, .int (nI f - nI d))] [] := fun hdf hBf hbar => by
    refine r_0_canMove_78 F hP hB hk_p hp_p hq_p ?_
    rw [hI]
    refine a_callV (b := p) (As := [.int (nI m)]) (st := []) (ci := 0) F (c_0_highest (xl X) hP I A J hB p hk_p hp_p hq_p m B hm hb) ml_0_55 im_yX0_highest se_yX0_highest (by decide) (by decide) rfl (hp_p) hk_p rfl dX0_canMove_83 (by decide) (Nat.le_refl 0) (Nat.le_refl 0) (hl_r (hp_p) (hl_i (hl_i (hl_i hl_nil)))) hs_nil ?_
    rintro _ _ _ ⟨rfl, rfl, rfl⟩ _
    refine a_istore F dX0_canMove_86 (by decide) rfl ?_
    refine a_sub [1, 2, 3, 4, 0] rfl ?_
    show WA X (mC P O I A J) pl 0 0 88 [(0, .ref p), (1, .int (nI f)), (2, .int (nI d)), (3, .int (nI f - nI d)), (4, .int (nI (hiN B (26 * m) 25)))] []
    have hl := hi_le B (26 * m) 25
    have hg := hi_ge (B := B) (o := 26 * m) (n := 25) (k := f) hf hBf
    have h6 : (6 : Int32) < nI (hiN B (26 * m) 25) ↔ 6 < hiN B (26 * m) 25 := nI_gtn 6 (by omega) (by omega)
    have hx0 : nI f - nI d = 0 ↔ f = d := by
      constructor
      · intro z; have : nI f = nI d := by grind
        exact (nI_eq (by omega) (by omega)).mp this
      · intro z; rw [z]; grind
    have hx4 : nI (hiN B (26 * m) 25) = nI f ↔ hiN B (26 * m) 25 = f := nI_eq (by omega) (by omega)
    have key : cmP B m f d ↔ hiN B (26 * m) 25 ≤ 6 ∧ (f = d ∨ hiN B (26 * m) 25 = f) := by
      unfold cmP
      rw [if_neg hdf]
      constructor
      · rintro ⟨-, -, h7, h8⟩
        have l6 : hiN B (26 * m) 25 ≤ 6 := by
          rcases Nat.lt_or_ge 6 (hiN B (26 * m) 25) with c | c
          · exact absurd (h7 _ (by omega) (by omega)) (hi_in B (26 * m) 25 (by omega))
          · exact c
        refine ⟨l6, ?_⟩
        rcases h8 with h8 | h8
        · exact Or.inl h8
        · right
          rcases Nat.lt_or_ge f (hiN B (26 * m) 25) with c | c
          · exact absurd (h8 _ (by omega) c) (hi_in B (26 * m) 25 (by omega))
          · omega
      · rintro ⟨l6, h8⟩
        refine ⟨hBf, hbar, fun k k1 k2 => hi_up B (26 * m) 25 k (by omega) (by omega), ?_⟩
        rcases h8 with h8 | h8
        · exact Or.inl h8
        · exact Or.inr (fun k k1 k2 => hi_up B (26 * m) 25 k (by omega) (by omega))
    exact r_0_canMove_88 F E hP hB hk_p hp_p hq_p (fun z => no (fun w => by have := (key.mp w.2).1; have := h6.mp z; omega)) (fun z1 z2 => yes (by omega) (key.mpr ⟨by have := (not_congr h6).mp z1; omega, Or.inl (hx0.mp z2)⟩)) (fun z1 z2 z3 => no (fun w => (key.mp w.2).2.elim (fun y => z2 (hx0.mpr y)) (fun y => z3 (hx4.mpr y)))) (fun z1 z2 z3 => yes (by omega) (key.mpr ⟨by have := (not_congr h6).mp z1; omega, Or.inr (hx4.mp z3)⟩))
  have le0 : nI f - nI d ≤ 0 ↔ ¬ d < f := by
    by_cases c : d < f
    · rw [pk_sub (by omega)]
      exact ⟨fun z => by have := (nI_le0 (by omega)).mp z; omega, fun z => absurd c z⟩
    · exact ⟨fun _ => c, fun _ => by
        have h1 : nI f ≤ nI d := (nI_leI (by omega) (by omega)).mpr (by omega)
        have h2 : (0 : Int32) ≤ nI f := (nI_gen 0 (by omega) (by omega)).mpr (Nat.zero_le _)
        have h3 : nI d ≤ 6 := (nI_len 6 (by omega) (by omega)).mpr hd
        grind⟩
  have iT : d < f → (1 - I p 1) * 26 + (25 - (nI f - nI d)) = nI (26 * (1 - m) + (25 - (f - d))) := fun c => by
    rw [hI, ix_o hm, pk_sub (by omega), show (25 : Int32) - nI (f - d) = nI (25 - (f - d)) from pk_sub (a := 25) (by omega), ix_a]
  have vT : ¬ (nI f - nI d) ≤ 0 → vp_in ((1 - I p 1) * 26 + (25 - (nI f - nI d))) 52 := fun z => by
    have c : d < f := Decidable.of_not_not (fun y => z (le0.mpr y))
    rw [iT c]; exact vp_in_nI (by omega) (by omega)
  have cT : ¬ (nI f - nI d) ≤ 0 → (1 < A (p + 1) ((1 - I p 1) * 26 + (25 - (nI f - nI d))).toNatClampNeg ↔ 1 < B (26 * (1 - m) + (25 - (f - d)))) := fun z => by
    have c : d < f := Decidable.of_not_not (fun y => z (le0.mpr y))
    have := bl (26 * (1 - m) + (25 - (f - d))) (by omega)
    rw [iT c, nI_clamp (by omega), bd_at hb (by omega)]; exact nI_gtn 1 (by omega) (by omega)
  have dl : ¬ (nI f - nI d) ≤ 0 → d < f := fun z => Decidable.of_not_not (fun y => z (le0.mpr y))
  refine r_0_canMove_0 F E hP hB hk_p hp_p hq_p (fun z => absurd (c1.mp z) f0) (fun _ z => absurd z n25) (fun _ _ => by rw [iF]; exact vp_in_nI (by omega) (by omega)) (fun _ _ z1 z2 z3 => off (le0.mp z3) (fun y => z1 (cF.mpr y)) (fun y => by have := cf.mp z2; omega)) (fun _ _ _ _ z => vT z) (fun _ _ z1 z2 z3 z4 => no (fun w => by have h1 := w.2.2.2; rw [if_pos (dl z3)] at h1; have := (cT z3).mp z4; omega)) (fun _ _ z1 z2 z3 z4 => yes (by omega) ⟨fun y => z1 (cF.mpr y), fun y => by have := cf.mp z2; omega, by rw [if_pos (dl z3)]; have := (not_congr (cT z3)).mp z4; omega⟩) (fun _ _ _ _ => by rw [i25]; exact vp_in_nI (by omega) (by omega)) (fun _ _ z1 z2 z3 z4 => off (le0.mp z4) (fun y => z1 (cF.mpr y)) (fun y => by have := c25.mp z3; omega)) (fun _ _ _ _ _ z => vT z) (fun _ _ z1 z2 z3 z4 z5 => no (fun w => by have h1 := w.2.2.2; rw [if_pos (dl z4)] at h1; have := (cT z4).mp z5; omega)) (fun _ _ z1 z2 z3 z4 z5 => yes (by omega) ⟨fun y => z1 (cF.mpr y), fun y => by have := c25.mp z3; omega, by rw [if_pos (dl z4)]; have := (not_congr (cT z4)).mp z5; omega⟩) (fun _ _ z1 z2 z3 => no (fun w => by have h1 := w.2.2.1; have h2 := (not_congr c25).mp z3; have h3 := (not_congr cf).mp z2; omega)) (fun _ _ z1 => no (fun w => w.2.1 (cF.mp z1)))
