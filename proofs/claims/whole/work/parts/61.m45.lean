def dnS (A : Nat → Nat → Int32) (s : Nat) : Prop := digV (rowAt (A 49) (8 * num s)) 8 ∧ valR (rowAt (A 49) (8 * num s)) 8 = eF 36 s ∧ A 51 (num s) = nI s ∧ (s ≠ 0 → ∀ a b, 1 ≤ b → b ≤ a → a ≤ 6 → A 50 (21 * num s + dnN a b) = nI (num (bst (eF 36) s a b)))
def dA (d : Nat) : Nat := if d < 1 then 1 else if d < 3 then 2 else if d < 6 then 3 else if d < 10 then 4 else if d < 15 then 5 else 6
def dB (d : Nat) : Nat := d - dA d * (dA d - 1) / 2 + 1
theorem dn_ab : ∀ a, a < 7 → ∀ b, b < 7 → 1 ≤ b → b ≤ a → (dA (dnN a b) = a ∧ dB (dnN a b) = b) := by decide +kernel
theorem dn_inj (a : Nat) (ha : a < 7) (b : Nat) (hb : b < 7) (a' : Nat) (ha' : a' < 7) (b' : Nat) (hb' : b' < 7) (h : 1 ≤ b ∧ b ≤ a ∧ 1 ≤ b' ∧ b' ≤ a' ∧ dnN a b = dnN a' b') : a = a' ∧ b = b' := by
  have h1 := dn_ab a ha b hb h.1 h.2.1
  have h2 := dn_ab a' ha' b' hb' h.2.2.1 h.2.2.2.1
  rw [h.2.2.2.2] at h1
  exact ⟨h1.1.symm.trans h2.1, h1.2.symm.trans h2.2⟩
theorem dn_lt : ∀ a, a < 7 → ∀ b, b < 7 → 1 ≤ b → b ≤ a → dnN a b < 21 := by decide +kernel
theorem dnS_cg {A A' : Nat → Nat → Int32} {t : Nat} (h49 : ∀ k, k < 8 → A' 49 (8 * num t + k) = A 49 (8 * num t + k)) (h51 : A' 51 (num t) = A 51 (num t)) (h50 : ∀ d, d < 21 → A' 50 (21 * num t + d) = A 50 (21 * num t + d)) (h : dnS A t) : dnS A' t := by
  obtain ⟨h1, h2, h3, h4⟩ := h
  refine ⟨fun k hk => ?_, ?_, ?_, ?_⟩
  · obtain ⟨d, y1, y2⟩ := h1 k hk
    exact ⟨d, y1, by unfold rowAt at y2 ⊢; rw [h49 k hk]; exact y2⟩
  · rw [← h2]; exact val_cg 8 (fun k hk => h49 k hk)
  · rw [h51]; exact h3
  · intro z a b y1 y2 y3
    rw [h50 _ (dn_lt a (by omega) b (by omega) y1 y2)]; exact h4 z a b y1 y2 y3
theorem cmp_r {A : Nat → Nat → Int32} {t u : Nat} (ht : stnd t) (hu : stnd u) (dt : dnS A t) (du : dnS A u) : (cmpI (A 49) (nI (num t)) (nI (num u)) = 0 ↔ eF 36 t = eF 36 u) ∧ (cmpI (A 49) (nI (num t)) (nI (num u)) ≤ 0 ↔ eF 36 t ≤ eF 36 u) := by
  have h1 := num_lt ht; have h2 := num_lt hu
  unfold cmpI; rw [nI_clamp (by omega), nI_clamp (by omega), ← dt.2.1, ← du.2.1]
  exact ag_val 8 dt.1 du.1
theorem nI_nm {k : Nat} (h : k < 2 ^ 31) : ¬ nI k = -1 := fun z => by have := (nI_gen (k := k) 0 h (by omega)).mpr (Nat.zero_le _); rw [z] at this; exact absurd this (by decide)
noncomputable def fS (s a b : Nat) : Nat := (if a = b then 1 else 2) * eF 36 (bst (eF 36) s a b)
noncomputable def fT (s a : Nat) : Nat := sumB (fS s a) 1 a
theorem fT_sum (s : Nat) : sumB (fT s) 1 6 = sumD (fun a b => eF 36 (bst (eF 36) s a b)) := rfl
theorem su_p {f : Nat → Nat} {n : Nat} (h : 1 ≤ n) : sumB f 1 n = sumB f 1 (n - 1) + f n := by
  have : n = (n - 1) + 1 := by omega
  conv => lhs; rw [this]
  simp only [sumB]; rw [show 1 + (n - 1) = n by omega]
theorem fT_le {s a b : Nat} (hs : stnd s) (ha1 : 1 ≤ a) (ha : a ≤ 6) (hb : b ≤ a) : sumB (fT s) 1 (a - 1) + sumB (fS s a) 1 b < 2 ^ (28 * 8) := by
  have h1 : sumB (fS s a) 1 b ≤ fT s a := su_mono hb
  have h2 : sumB (fT s) 1 a = sumB (fT s) 1 (a - 1) + fT s a := by
    have : a = (a - 1) + 1 := by omega
    conv => lhs; rw [this]
    simp only [sumB]; rw [show 1 + (a - 1) = a by omega]
  have h3 : sumB (fT s) 1 a ≤ sumB (fT s) 1 6 := su_mono ha
  have h4 : sumB (fT s) 1 6 ≤ 36 * (90 * 36 ^ 36) := by
    rw [fT_sum]
    refine sumD_le (fun a b a1 _ b1 _ => ?_)
    have hst := (Res_st a1 b1 hs (bst_is (eF 36) a1 b1 hs).1).1
    exact Nat.le_trans (eF_le 36 _ hst) (Nat.mul_le_mul (pip_90 hst) (Nat.le_refl _))
  have h5 : 36 * (90 * 36 ^ 36) < 2 ^ (28 * 8) := by decide +kernel
  omega
theorem val_z {r : Nat → Int32} : ∀ n, (∀ k, k < n → r k = 0) → digV r n ∧ valR r n = 0
  | 0, _ => ⟨fun k hk => absurd hk (by omega), rfl⟩
  | n + 1, h => by
    have ih := val_z n (fun k hk => h k (by omega))
    refine ⟨fun k hk => ⟨0, by decide, h k hk⟩, ?_⟩
    rw [val_s (d := 0) (h n (by omega)) (by decide), ih.2, Nat.zero_mul]
def putO (r : Nat → Int32) (o n v : Nat) : Nat → Int32 := fun j => if o ≤ j ∧ j < o + n then nI (v / 2 ^ (28 * (j - o)) % 2 ^ 28) else r j
theorem putO_0 (r : Nat → Int32) (o v : Nat) : putO r o 0 v = r := by funext j; unfold putO; rw [if_neg (by omega)]
theorem putO_up (r : Nat → Int32) (o n v : Nat) : upd (putO r o n v) (o + n) (nI (v / 2 ^ (28 * n) % 2 ^ 28)) = putO r o (n + 1) v := by
  funext j
  unfold upd putO
  by_cases h : j = o + n
  · subst h; rw [if_pos rfl, if_pos (by omega), show o + n - o = n by omega]
  · rw [if_neg h]
    by_cases h2 : o ≤ j ∧ j < o + n
    · rw [if_pos h2, if_pos (by omega)]
    · rw [if_neg h2, if_neg (by omega)]
theorem putO_in {r : Nat → Int32} {o n v k : Nat} (h : k < n) : putO r o n v (o + k) = nI (v / 2 ^ (28 * k) % 2 ^ 28) := by
  unfold putO; rw [if_pos (by omega), show o + k - o = k by omega]
theorem putO_out {r : Nat → Int32} {o n v j : Nat} (h : j < o ∨ o + n ≤ j) : putO r o n v j = r j := by unfold putO; rw [if_neg (by omega)]
theorem putO_val {r : Nat → Int32} {o n v : Nat} : digV (rowAt (putO r o n v) o) n ∧ valR (rowAt (putO r o n v) o) n = v % 2 ^ (28 * n) := by
  refine ⟨fun k hk => ⟨_, Nat.mod_lt _ (by decide), putO_in hk⟩, ?_⟩
  rw [← put_val (r := r) (N := n) (v := v) n (Nat.le_refl _)]
  exact val_cg n (fun k hk => by rw [put_in hk]; exact putO_in hk)
def wkV (A A1 : Nat → Nat → Int32) (s a b : Nat) : Prop := (∀ q, q ≠ 50 → q ≠ 51 → q ≠ 54 → q ≠ 57 → A1 q = A q) ∧ A1 51 = upd (A 51) (num s) (nI s) ∧ (∀ k, (k < 21 * num s ∨ 21 * num s + 21 ≤ k) → A1 50 k = A 50 k) ∧ digV (A1 54) 8 ∧ valR (A1 54) 8 = sumB (fT s) 1 (a - 1) + sumB (fS s a) 1 (b - 1) ∧ (∀ a' b', 1 ≤ b' → b' ≤ a' → a' ≤ 6 → (a' < a ∨ (a' = a ∧ b' < b)) → A1 50 (21 * num s + dnN a' b') = nI (num (bst (eF 36) s a' b')))
theorem wkV_dn {A A1 : Nat → Nat → Int32} {s a b t : Nat} (hs : stnd s) (ht : stnd t) (hne : t ≠ s) (h : wkV A A1 s a b) (hd : dnS A t) : dnS A1 t := by
  have hnn : num t ≠ num s := fun z => hne (num_inj ht hs z)
  refine dnS_cg (fun k _ => ?_) ?_ (fun d hd => ?_) hd
  · rw [h.1 49 (by decide) (by decide) (by decide) (by decide)]
  · rw [h.2.1, upd_out hnn]
  · exact h.2.2.1 _ (by omega)
theorem wkV_row {A A1 : Nat → Nat → Int32} {s a : Nat} (ha : 1 ≤ a) (h : wkV A A1 s a (a + 1)) : wkV A A1 s (a + 1) 1 := by
  obtain ⟨h1, h2, h3, h4, h5, h6⟩ := h
  refine ⟨h1, h2, h3, h4, ?_, fun a' b' y1 y2 y3 y4 => h6 a' b' y1 y2 y3 (by omega)⟩
  rw [h5, Nat.add_sub_cancel, su_p (f := fT s) ha]; rfl
theorem wkV_57 {A A1 A2 : Nat → Nat → Int32} {s a b : Nat} (h : wkV A A1 s a b) (h2 : ∀ q, q ≠ 57 → A2 q = A1 q) : wkV A A2 s a b := by
  obtain ⟨g1, g2, g3, g4, g5, g6⟩ := h
  refine ⟨fun q q1 q2 q3 q4 => (h2 q q4).trans (g1 q q1 q2 q3 q4), (h2 51 (by decide)).trans g2, fun k hk => by rw [h2 50 (by decide)]; exact g3 k hk, by rw [h2 54 (by decide)]; exact g4, by rw [h2 54 (by decide)]; exact g5, fun a' b' y1 y2 y3 y4 => by rw [h2 50 (by decide)]; exact g6 a' b' y1 y2 y3 y4⟩
theorem wkV_add {A A1 : Nat → Nat → Int32} {s a b : Nat} (hs : stnd s) (ha : a ≤ 6) (hb1 : 1 ≤ b) (hb : b ≤ a) (h : wkV A A1 s a b) {m c : Nat} (hm : valR (rowAt (A1 49) (8 * m)) 8 = eF 36 (bst (eF 36) s a b)) (hm6 : m < 54264) (hmn : m = num (bst (eF 36) s a b)) (hc : c = if a = b then 1 else 2) : wkV A (up1 (up1 A1 50 (upd (A1 50) (21 * num s + dnN a b) (nI m))) 54 (adR (up1 A1 50 (upd (A1 50) (21 * num s + dnN a b) (nI m))) (nI m) (nI c))) s a (b + 1) := by
  obtain ⟨g1, g2, g3, g4, g5, g6⟩ := h
  have hdl := dn_lt a (by omega) b (by omega) hb1 hb
  have hc2 : c ≤ 2 := by rw [hc]; split <;> omega
  refine ⟨fun q q1 q2 q3 q4 => ?_, ?_, fun k hk => ?_, ?_, ?_, fun a' b' y1 y2 y3 y4 => ?_⟩
  · rw [up1_p q3, up1_p q1]; exact g1 q q1 q2 q3 q4
  · rw [up1_p (by decide), up1_p (by decide)]; exact g2
  · rw [up1_p (by decide), up1_s, upd_out (by omega)]; exact g3 k hk
  · rw [up1_s]; unfold adR; exact put_dig
  · rw [up1_s]; unfold adR
    rw [put_val 8 (Nat.le_refl _), nI_clamp (by omega), nI_clamp (by omega), up1_p (by decide), up1_p (by decide), hm, g5]
    have e : sumB (fS s a) 1 b = sumB (fS s a) 1 (b - 1) + fS s a b := by
      have : b = (b - 1) + 1 := by omega
      conv => lhs; rw [this]
      simp only [sumB]; rw [show 1 + (b - 1) = b by omega]
    have ef : eF 36 (bst (eF 36) s a b) * c = fS s a b := by unfold fS; rw [hc, Nat.mul_comm]
    rw [ef, Nat.add_sub_cancel, e, Nat.add_assoc]
    rw [Nat.mod_eq_of_lt]
    rw [← e]; exact fT_le hs (by omega) ha hb
  · rw [up1_p (by decide), up1_s]
    by_cases c9 : a' = a ∧ b' = b
    · obtain ⟨rfl, rfl⟩ := c9
      rw [upd_in, hmn]
    · have hne : dnN a' b' ≠ dnN a b := fun z => c9 (dn_inj a' (by omega) b' (by omega) a (by omega) b (by omega) ⟨y1, y2, hb1, hb, z⟩)
      rw [upd_out (by omega)]
      exact g6 a' b' y1 y2 y3 (by omega)
def wkQ (I A : Nat → Nat → Int32) (J : Nat → Nat → Int64) (s : Nat) : Option Value → HS → List Nat → Prop := fun rv σ' pl' => ∃ I' A', rv = none ∧ σ' = mS I' A' J ∧ pl' = plM ∧ (∀ k, k ≠ 58 → I' 0 k = I 0 k) ∧ (∀ q, q ≠ 49 → q ≠ 50 → q ≠ 51 → q ≠ 54 → q ≠ 57 → A' q = A q) ∧ dnS A' s ∧ ∀ t, stnd t → t ≠ s → dnS A t → dnS A' t

theorem r_12_work_0 {X : Ctx} (F : Fx X cX12_work RX12 10 4 0 0) {I A : Nat → Nat → Int32} {J : Nat → Nat → Int64} {x1 : Int32}
    (o_1 : stdI x1)
    (o_2 : chT (A 52))
    (o_3 : vp_in (nmI x1) 54264)
    (e_4 : WA X (mS I (up1 A 51 (upd (A 51) (nmI x1).toNatClampNeg x1)) J) plM 0 0 15 [(0, .ref 0), (1, .int x1), (2, .int (nmI x1)), (3, .int 0)] []) :
    WA X (mS I A J) plM 0 0 0 [(0, .ref 0), (1, .int x1)] [] := by
  refine a_aload_n F 0 dX12_work_0 rfl rfl ?_
  refine a_iload_n F 1 dX12_work_1 rfl rfl ?_
  refine a_callV (b := 0) (As := [.int x1]) (st := []) (ci := 12) F (c_numberOfI (xl X) I A J x1 (o_1) (o_2)) ml_12_375 im_yX12_numberOf se_yX12_numberOf (by decide) (by decide) rfl (by decide) rfl rfl dX12_work_2 (by decide) (Nat.le_refl 0) (Nat.le_refl 0) (hl_r (by decide) (hl_i hl_nil)) hs_nil ?_
  rintro _ _ _ ⟨rfl, rfl, rfl⟩ _
  show WA X (mS I A J) plM 0 0 5 [(0, .ref 0), (1, .int x1)] [.int (nmI x1)]
  refine a_istore_n F dX12_work_5 rfl (by decide) rfl ?_
  refine a_aload_n F 1 dX12_work_6 rfl rfl ?_
  refine a_getr (b := 51) F fl_12_88 rfl (by decide) rfl rfl dX12_work_7 ?_
  refine a_iload_n F 0 dX12_work_10 rfl rfl ?_
  refine a_iload_n F 2 dX12_work_11 rfl rfl ?_
  refine a_iast F (by decide) rfl (o_3) dX12_work_12 ?_
  refine a_iconst (v := 0) F dX12_work_13 (by decide) ?_
  refine a_istore_n F dX12_work_14 rfl (by decide) rfl ?_
  refine a_sub [2, 3, 1, 0] rfl ?_
  exact e_4

theorem r_12_work_15 {X : Ctx} (F : Fx X cX12_work RX12 10 4 0 0) {I A : Nat → Nat → Int32} {J : Nat → Nat → Int64} {x1 x2 x3 : Int32}
    (e_1 : (8 ≤ x3) → WA X (mS I A J) plM 0 0 36 [(0, .ref 0), (1, .int x1), (2, .int x2), (3, .int 1)] [])
    (o_2 : (¬ (8 ≤ x3)) → vp_in x3 8)
    (e_3 : (¬ (8 ≤ x3)) → WA X (mS I (up1 A 54 (upd (A 54) x3.toNatClampNeg 0)) J) plM 0 0 15 [(0, .ref 0), (1, .int x1), (2, .int x2), (3, .int (x3 + 1))] []) :
    WA X (mS I A J) plM 0 0 15 [(0, .ref 0), (1, .int x1), (2, .int x2), (3, .int x3)] [] := by
  refine a_iload_n F 3 dX12_work_15 rfl rfl ?_
  refine a_bipush (v := 8) F dX12_work_16 (by decide) ?_
  refine a_icmp_ge (tgt := 34) F dX12_work_18 (by decide) (fun (c_1 : 8 ≤ x3) => ?_) (fun (c_1 : ¬ (8 ≤ x3)) => ?_)
  · refine a_iconst (v := 1) F dX12_work_34 (by decide) ?_
    refine a_istore_n F dX12_work_35 rfl (by decide) rfl ?_
    refine a_sub [1, 2, 3, 0] rfl ?_
    exact e_1 c_1
  · refine a_aload_n F 0 dX12_work_21 rfl rfl ?_
    refine a_getr (b := 54) F fl_12_97 rfl (by decide) rfl rfl dX12_work_22 ?_
    refine a_iload_n F 3 dX12_work_25 rfl rfl ?_
    refine a_iconst (v := 0) F dX12_work_26 (by decide) ?_
    refine a_iast F (by decide) rfl (o_2 c_1) dX12_work_27 ?_
    refine a_iinc (v := x3 + 1) F 3 dX12_work_28 rfl rfl (by decide) rfl ?_
    refine a_goto (tgt := 15) F dX12_work_31 (by decide) ?_
    refine a_sub [1, 2, 3, 0] rfl ?_
    exact e_3 c_1

theorem r_12_work_36 {X : Ctx} (F : Fx X cX12_work RX12 10 4 0 0) {I A : Nat → Nat → Int32} {J : Nat → Nat → Int64} {x1 x2 x3 : Int32}
    (e_1 : (6 < x3) → WA X (mS I A J) plM 0 0 194 [(0, .ref 0), (1, .int x1), (2, .int x2), (3, .int x3)] [])
    (e_2 : (¬ (6 < x3)) → WA X (mS I A J) plM 0 0 45 [(0, .ref 0), (1, .int x1), (2, .int x2), (3, .int x3), (4, .int 1)] []) :
    WA X (mS I A J) plM 0 0 36 [(0, .ref 0), (1, .int x1), (2, .int x2), (3, .int x3)] [] := by
  refine a_iload_n F 3 dX12_work_36 rfl rfl ?_
  refine a_bipush (v := 6) F dX12_work_37 (by decide) ?_
  refine a_icmp_gt (tgt := 194) F dX12_work_39 (by decide) (fun (c_2 : 6 < x3) => ?_) (fun (c_2 : ¬ (6 < x3)) => ?_)
  · exact e_1 c_2
  · refine a_iconst (v := 1) F dX12_work_42 (by decide) ?_
    refine a_istore F dX12_work_43 (by decide) rfl ?_
    refine a_sub [1, 2, 3, 4, 0] rfl ?_
    exact e_2 c_2

theorem r_12_work_45 {X : Ctx} (F : Fx X cX12_work RX12 10 4 0 0) {I A : Nat → Nat → Int32} {J : Nat → Nat → Int64} {x1 x2 x3 x4 : Int32}
    (e_1 : (x3 < x4) → WA X (mS I A J) plM 0 0 36 [(0, .ref 0), (1, .int x1), (2, .int x2), (3, .int (x3 + 1))] [])
    (e_2 : (¬ (x3 < x4)) → WA X (mS I A J) plM 0 0 56 [(0, .ref 0), (1, .int x1), (2, .int x2), (3, .int x3), (4, .int x4)] [.int x4, .int x3, .int x1, .ref 0]) :
    WA X (mS I A J) plM 0 0 45 [(0, .ref 0), (1, .int x1), (2, .int x2), (3, .int x3), (4, .int x4)] [] := by
  refine a_iload F 4 dX12_work_45 rfl ?_
  refine a_iload_n F 3 dX12_work_47 rfl rfl ?_
  refine a_icmp_gt (tgt := 188) F dX12_work_48 (by decide) (fun (c_3 : x3 < x4) => ?_) (fun (c_3 : ¬ (x3 < x4)) => ?_)
  · refine a_iinc (v := x3 + 1) F 3 dX12_work_188 rfl rfl (by decide) rfl ?_
    refine a_goto (tgt := 36) F dX12_work_191 (by decide) ?_
    refine a_sub [1, 2, 3, 0] rfl ?_
    exact e_1 c_3
  · refine a_aload_n F 0 dX12_work_51 rfl rfl ?_
    refine a_iload_n F 1 dX12_work_52 rfl rfl ?_
    refine a_iload_n F 3 dX12_work_53 rfl rfl ?_
    refine a_iload F 4 dX12_work_54 rfl ?_
    exact e_2 c_3

theorem r_12_work_61 {X : Ctx} (F : Fx X cX12_work RX12 10 4 0 0) {I A : Nat → Nat → Int32} {J : Nat → Nat → Int64} {x1 x2 x3 x4 x5 : Int32}
    (e_1 : WA X (mS I A J) plM 0 0 68 [(0, .ref 0), (1, .int x1), (2, .int x2), (3, .int x3), (4, .int x4), (5, .int x5), (6, .int (-1)), (7, .int x5)] []) :
    WA X (mS I A J) plM 0 0 61 [(0, .ref 0), (1, .int x1), (2, .int x2), (3, .int x3), (4, .int x4), (5, .int x5)] [] := by
  refine a_iconst (v := (-1)) F dX12_work_61 (by decide) ?_
  refine a_istore F dX12_work_62 (by decide) rfl ?_
  refine a_iload F 6 dX12_work_64 rfl ?_
  refine a_istore F dX12_work_66 (by decide) rfl ?_
  refine a_sub [2, 3, 4, 5, 6, 7, 1, 0] rfl ?_
  exact e_1

theorem r_12_work_68 {X : Ctx} (F : Fx X cX12_work RX12 10 4 0 0) {I A : Nat → Nat → Int32} {J : Nat → Nat → Int64} {x1 x2 x3 x4 x5 x6 x7 : Int32}
    (e_1 : ((I 0 58) ≤ x7) → WA X (mS I A J) plM 0 0 147 [(0, .ref 0), (1, .int x1), (2, .int x2), (3, .int x3), (4, .int x4), (5, .int x5), (6, .int x6), (7, .int x7)] [])
    (o_2 : (¬ ((I 0 58) ≤ x7)) → vp_in x7 1000)
    (o_3 : (¬ ((I 0 58) ≤ x7)) → stdI (A 57 x7.toNatClampNeg))
    (o_4 : (¬ ((I 0 58) ≤ x7)) → chT (A 52))
    (e_5 : (¬ ((I 0 58) ≤ x7)) → WA X (mS I A J) plM 0 0 90 [(0, .ref 0), (1, .int x1), (2, .int x2), (3, .int x3), (4, .int x4), (5, .int x5), (6, .int x6), (7, .int x7), (8, .int (nmI (A 57 x7.toNatClampNeg)))] []) :
    WA X (mS I A J) plM 0 0 68 [(0, .ref 0), (1, .int x1), (2, .int x2), (3, .int x3), (4, .int x4), (5, .int x5), (6, .int x6), (7, .int x7)] [] := by
  refine a_iload F 7 dX12_work_68 rfl ?_
  refine a_aload_n F 0 dX12_work_70 rfl rfl ?_
  refine a_geti F fl_12_359 rfl (by decide) rfl dX12_work_71 ?_
  refine a_icmp_ge (tgt := 147) F dX12_work_74 (by decide) (fun (c_4 : (I 0 58) ≤ x7) => ?_) (fun (c_4 : ¬ ((I 0 58) ≤ x7)) => ?_)
  · exact e_1 c_4
  · refine a_aload_n F 0 dX12_work_77 rfl rfl ?_
    refine a_aload_n F 0 dX12_work_78 rfl rfl ?_
    refine a_getr (b := 57) F fl_12_100 rfl (by decide) rfl rfl dX12_work_79 ?_
    refine a_iload F 7 dX12_work_82 rfl ?_
    refine a_iald F (by decide) rfl (o_2 c_4) dX12_work_84 ?_
    refine a_callV (b := 0) (As := [.int (A 57 x7.toNatClampNeg)]) (st := []) (ci := 12) F (c_numberOfI (xl X) I A J (A 57 x7.toNatClampNeg) (o_3 c_4) (o_4 c_4)) ml_12_375 im_yX12_numberOf se_yX12_numberOf (by decide) (by decide) rfl (by decide) rfl rfl dX12_work_85 (by decide) (Nat.le_refl 0) (Nat.le_refl 0) (hl_r (by decide) (hl_i (hl_i (hl_i (hl_i (hl_i (hl_i (hl_i hl_nil)))))))) hs_nil ?_
    rintro _ _ _ ⟨rfl, rfl, rfl⟩ _
    show WA X (mS I A J) plM 0 0 88 [(0, .ref 0), (1, .int x1), (2, .int x2), (3, .int x3), (4, .int x4), (5, .int x5), (6, .int x6), (7, .int x7)] [.int (nmI (A 57 x7.toNatClampNeg))]
    refine a_istore F dX12_work_88 (by decide) rfl ?_
    refine a_sub [1, 2, 3, 4, 5, 6, 7, 8, 0] rfl ?_
    exact e_5 c_4

theorem r_12_work_90 {X : Ctx} (F : Fx X cX12_work RX12 10 4 0 0) {I A : Nat → Nat → Int32} {J : Nat → Nat → Int64} {x1 x2 x3 x4 x5 x6 x7 x8 : Int32}
    (o_1 : (¬ x6 = (-1)) → 0 ≤ x8 ∧ x8 < 54264)
    (o_2 : (¬ x6 = (-1)) → 0 ≤ x6 ∧ x6 < 54264)
    (e_3 : WA X (mS I A J) plM 0 0 110 [(0, .ref 0), (1, .int x1), (2, .int x2), (3, .int x3), (4, .int x4), (5, .int x5), (6, .int x6), (7, .int x7), (8, .int x8), (9, .int (if x6 = (-1) then (-1) else (cmpI (A 49) x8 x6)))] []) :
    WA X (mS I A J) plM 0 0 90 [(0, .ref 0), (1, .int x1), (2, .int x2), (3, .int x3), (4, .int x4), (5, .int x5), (6, .int x6), (7, .int x7), (8, .int x8)] [] := by
  refine a_iload F 6 dX12_work_90 rfl ?_
  refine a_iconst (v := (-1)) F dX12_work_92 (by decide) ?_
  suffices k : ∀ z9 : Int32, z9 = (if x6 = (-1) then (-1) else (cmpI (A 49) x8 x6)) → WA X (mS I A J) plM 0 0 108 [(0, .ref 0), (1, .int x1), (2, .int x2), (3, .int x3), (4, .int x4), (5, .int x5), (6, .int x6), (7, .int x7), (8, .int x8)] [.int z9] by
    refine a_icmp_ne (tgt := 100) F dX12_work_93 (by decide) (fun (c_5 : ¬ x6 = (-1)) => ?_) (fun (c_5 : x6 = (-1)) => ?_)
    · refine a_aload_n F 0 dX12_work_100 rfl rfl ?_
      refine a_iload F 8 dX12_work_101 rfl ?_
      refine a_iload F 6 dX12_work_103 rfl ?_
      refine a_callV (b := 0) (As := [.int x8, .int x6]) (st := []) (ci := 12) F (c_compareRolls (xl X) I A J x8 x6 (o_1 c_5) (o_2 c_5)) ml_12_382 im_yX12_compareRolls se_yX12_compareRolls (by decide) (by decide) rfl (by decide) rfl rfl dX12_work_105 (by decide) (Nat.le_refl 0) (Nat.le_refl 0) (hl_r (by decide) (hl_i (hl_i (hl_i (hl_i (hl_i (hl_i (hl_i (hl_i hl_nil))))))))) hs_nil ?_
      rintro _ _ _ ⟨rfl, rfl, rfl⟩ _
      show WA X (mS I A J) plM 0 0 108 [(0, .ref 0), (1, .int x1), (2, .int x2), (3, .int x3), (4, .int x4), (5, .int x5), (6, .int x6), (7, .int x7), (8, .int x8)] [.int (cmpI (A 49) x8 x6)]
      exact k _ (by rw [if_neg c_5] <;> rfl)
    · refine a_iconst (v := (-1)) F dX12_work_96 (by decide) ?_
      refine a_goto (tgt := 108) F dX12_work_97 (by decide) ?_
      exact k _ (by rw [if_pos c_5] <;> rfl)
  rintro _ rfl
  refine a_istore F dX12_work_108 (by decide) rfl ?_
  refine a_sub [1, 2, 3, 4, 5, 6, 7, 8, 9, 0] rfl ?_
  exact e_3

theorem r_12_work_110 {X : Ctx} (F : Fx X cX12_work RX12 10 4 0 0) {I A : Nat → Nat → Int32} {J : Nat → Nat → Int64} {x1 x2 x3 x4 x5 x6 x7 x8 x9 : Int32}
    (e_1 : (x9 < 0) → WA X (mS I A J) plM 0 0 68 [(0, .ref 0), (1, .int x1), (2, .int x2), (3, .int x3), (4, .int x4), (5, .int x5), (6, .int x8), (7, .int (x7 + 1))] [])
    (e_2 : (¬ (x9 < 0)) → (¬ x9 = 0) → WA X (mS I A J) plM 0 0 68 [(0, .ref 0), (1, .int x1), (2, .int x2), (3, .int x3), (4, .int x4), (5, .int x5), (6, .int x6), (7, .int (x7 + 1))] [])
    (o_3 : (¬ (x9 < 0)) → (x9 = 0) → vp_in x7 1000)
    (o_4 : (¬ (x9 < 0)) → (x9 = 0) → vp_in x6 54264)
    (e_5 : (¬ (x9 < 0)) → (x9 = 0) → ((A 57 x7.toNatClampNeg) ≤ (A 51 x6.toNatClampNeg)) → WA X (mS I A J) plM 0 0 68 [(0, .ref 0), (1, .int x1), (2, .int x2), (3, .int x3), (4, .int x4), (5, .int x5), (6, .int x6), (7, .int (x7 + 1))] [])
    (e_6 : (¬ (x9 < 0)) → (x9 = 0) → (¬ ((A 57 x7.toNatClampNeg) ≤ (A 51 x6.toNatClampNeg))) → WA X (mS I A J) plM 0 0 68 [(0, .ref 0), (1, .int x1), (2, .int x2), (3, .int x3), (4, .int x4), (5, .int x5), (6, .int x8), (7, .int (x7 + 1))] []) :
    WA X (mS I A J) plM 0 0 110 [(0, .ref 0), (1, .int x1), (2, .int x2), (3, .int x3), (4, .int x4), (5, .int x5), (6, .int x6), (7, .int x7), (8, .int x8), (9, .int x9)] [] := by
  refine a_iload F 9 dX12_work_110 rfl ?_
  refine a_if_lt (tgt := 137) F dX12_work_112 (by decide) (fun (c_6 : x9 < 0) => ?_) (fun (c_6 : ¬ (x9 < 0)) => ?_)
  · refine a_iload F 8 dX12_work_137 rfl ?_
    refine a_istore F dX12_work_139 (by decide) rfl ?_
    refine a_iinc (v := x7 + 1) F 7 dX12_work_141 rfl rfl (by decide) rfl ?_
    refine a_goto (tgt := 68) F dX12_work_144 (by decide) ?_
    refine a_sub [2, 3, 4, 5, 6, 7, 1, 0] rfl ?_
    exact e_1 c_6
  · refine a_iload F 9 dX12_work_115 rfl ?_
    refine a_if_ne (tgt := 141) F dX12_work_117 (by decide) (fun (c_7 : ¬ x9 = 0) => ?_) (fun (c_7 : x9 = 0) => ?_)
    · refine a_iinc (v := x7 + 1) F 7 dX12_work_141 rfl rfl (by decide) rfl ?_
      refine a_goto (tgt := 68) F dX12_work_144 (by decide) ?_
      refine a_sub [1, 2, 3, 4, 5, 6, 7, 0] rfl ?_
      exact e_2 c_6 c_7
    · refine a_aload_n F 0 dX12_work_120 rfl rfl ?_
      refine a_getr (b := 57) F fl_12_100 rfl (by decide) rfl rfl dX12_work_121 ?_
      refine a_iload F 7 dX12_work_124 rfl ?_
      refine a_iald F (by decide) rfl (o_3 c_6 c_7) dX12_work_126 ?_
      refine a_aload_n F 0 dX12_work_127 rfl rfl ?_
      refine a_getr (b := 51) F fl_12_88 rfl (by decide) rfl rfl dX12_work_128 ?_
      refine a_iload F 6 dX12_work_131 rfl ?_
      refine a_iald F (by decide) rfl (o_4 c_6 c_7) dX12_work_133 ?_
      refine a_icmp_le (tgt := 141) F dX12_work_134 (by decide) (fun (c_8 : (A 57 x7.toNatClampNeg) ≤ (A 51 x6.toNatClampNeg)) => ?_) (fun (c_8 : ¬ ((A 57 x7.toNatClampNeg) ≤ (A 51 x6.toNatClampNeg))) => ?_)
      · refine a_iinc (v := x7 + 1) F 7 dX12_work_141 rfl rfl (by decide) rfl ?_
        refine a_goto (tgt := 68) F dX12_work_144 (by decide) ?_
        refine a_sub [1, 2, 3, 4, 5, 6, 7, 0] rfl ?_
        exact e_5 c_6 c_7 c_8
      · refine a_iload F 8 dX12_work_137 rfl ?_
        refine a_istore F dX12_work_139 (by decide) rfl ?_
        refine a_iinc (v := x7 + 1) F 7 dX12_work_141 rfl rfl (by decide) rfl ?_
        refine a_goto (tgt := 68) F dX12_work_144 (by decide) ?_
        refine a_sub [2, 3, 4, 5, 6, 7, 1, 0] rfl ?_
        exact e_6 c_6 c_7 c_8

theorem r_12_work_147 {X : Ctx} (F : Fx X cX12_work RX12 10 4 0 0) {I A : Nat → Nat → Int32} {J : Nat → Nat → Int64} {x1 x2 x3 x4 x5 x6 x7 : Int32}
    (o_1 : diceP x3 x4)
    (o_2 : vp_in ((21 * x2) + (dnI x3 x4)) 1139544)
    (e_3 : WA X (mS I (up1 A 50 (upd (A 50) ((21 * x2) + (dnI x3 x4)).toNatClampNeg x6)) J) plM 0 0 165 [(0, .ref 0), (1, .int x1), (2, .int x2), (3, .int x3), (4, .int x4), (5, .int x5), (6, .int x6), (7, .int x7)] []) :
    WA X (mS I A J) plM 0 0 147 [(0, .ref 0), (1, .int x1), (2, .int x2), (3, .int x3), (4, .int x4), (5, .int x5), (6, .int x6), (7, .int x7)] [] := by
  refine a_aload_n F 0 dX12_work_147 rfl rfl ?_
  refine a_getr (b := 50) F fl_12_84 rfl (by decide) rfl rfl dX12_work_148 ?_
  refine a_bipush (v := 21) F dX12_work_151 (by decide) ?_
  refine a_iload_n F 2 dX12_work_153 rfl rfl ?_
  refine a_imul F dX12_work_154 ?_
  refine a_iload_n F 3 dX12_work_155 rfl rfl ?_
  refine a_iload F 4 dX12_work_156 rfl ?_
  refine a_callS (As := [.int x3, .int x4]) (st := [.int (21 * x2), .ref 50]) F (c_diceNumber (xl X) I A J x3 x4 (o_1)) ml_12_385 sm_yX12_diceNumber (by decide) rfl dX12_work_158 (Nat.le_of_ble_eq_true rfl) (Nat.le_refl 0) (Nat.le_refl 0) (hl_r (by decide) (hl_i (hl_i (hl_i (hl_i (hl_i (hl_i (hl_i hl_nil)))))))) (hs_i (hs_r (by decide) hs_nil)) ?_
  rintro _ _ _ ⟨rfl, rfl, rfl⟩ _
  show WA X (mS I A J) plM 0 0 161 [(0, .ref 0), (1, .int x1), (2, .int x2), (3, .int x3), (4, .int x4), (5, .int x5), (6, .int x6), (7, .int x7)] [.int (dnI x3 x4), .int (21 * x2), .ref 50]
  refine a_iadd F dX12_work_161 ?_
  refine a_iload F 6 dX12_work_162 rfl ?_
  refine a_iast F (by decide) rfl (o_2) dX12_work_164 ?_
  exact e_3

theorem r_12_work_165 {X : Ctx} (F : Fx X cX12_work RX12 10 4 0 0) {I A : Nat → Nat → Int32} {J : Nat → Nat → Int64} {x1 x2 x3 x4 x5 x6 x7 : Int32}
    (o_1 : 0 ≤ x6 ∧ x6 < 54264)
    (o_2 : (0 : Int32) ≤ (if x3 = x4 then 1 else 2) ∧ (if x3 = x4 then 1 else 2) ≤ (2 : Int32))
    (o_3 : digV (A 54) 8)
    (o_4 : digV (rowAt (A 49) (8 * x6.toNatClampNeg)) 8)
    (e_5 : WA X (mS I (up1 A 54 (adR A x6 (if x3 = x4 then 1 else 2))) J) plM 0 0 45 [(0, .ref 0), (1, .int x1), (2, .int x2), (3, .int x3), (4, .int (x4 + 1))] []) :
    WA X (mS I A J) plM 0 0 165 [(0, .ref 0), (1, .int x1), (2, .int x2), (3, .int x3), (4, .int x4), (5, .int x5), (6, .int x6), (7, .int x7)] [] := by
  refine a_aload_n F 0 dX12_work_165 rfl rfl ?_
  refine a_iload F 6 dX12_work_166 rfl ?_
  refine a_iload_n F 3 dX12_work_168 rfl rfl ?_
  refine a_iload F 4 dX12_work_169 rfl ?_
  suffices k : ∀ z9 : Int32, z9 = (if x3 = x4 then 1 else 2) → WA X (mS I A J) plM 0 0 179 [(0, .ref 0), (1, .int x1), (2, .int x2), (3, .int x3), (4, .int x4), (5, .int x5), (6, .int x6), (7, .int x7)] [.int z9, .int x6, .ref 0] by
    refine a_icmp_ne (tgt := 178) F dX12_work_171 (by decide) (fun (c_9 : ¬ x3 = x4) => ?_) (fun (c_9 : x3 = x4) => ?_)
    · refine a_iconst (v := 2) F dX12_work_178 (by decide) ?_
      exact k _ (by rw [if_neg c_9] <;> rfl)
    · refine a_iconst (v := 1) F dX12_work_174 (by decide) ?_
      refine a_goto (tgt := 179) F dX12_work_175 (by decide) ?_
      exact k _ (by rw [if_pos c_9] <;> rfl)
  rintro _ rfl
  refine a_callV (b := 0) (As := [.int x6, .int (if x3 = x4 then 1 else 2)]) (st := []) (ci := 12) F (c_addRollsI (xl X) I A J x6 (if x3 = x4 then 1 else 2) (o_1) (o_2) (o_3) (o_4)) ml_12_388 im_yX12_addRolls se_yX12_addRolls (by decide) (by decide) rfl (by decide) rfl rfl dX12_work_179 (by decide) (Nat.le_refl 0) (Nat.le_refl 0) (hl_r (by decide) (hl_i (hl_i (hl_i (hl_i (hl_i (hl_i (hl_i hl_nil)))))))) hs_nil ?_
  rintro _ _ _ ⟨rfl, rfl, rfl⟩ _
  show WA X (mS I (up1 A 54 (adR A x6 (if x3 = x4 then 1 else 2))) J) plM 0 0 182 [(0, .ref 0), (1, .int x1), (2, .int x2), (3, .int x3), (4, .int x4), (5, .int x5), (6, .int x6), (7, .int x7)] []
  refine a_iinc (v := x4 + 1) F 4 dX12_work_182 rfl rfl (by decide) rfl ?_
  refine a_goto (tgt := 45) F dX12_work_185 (by decide) ?_
  refine a_sub [1, 2, 3, 4, 0] rfl ?_
  exact e_5

theorem r_12_work_194 {X : Ctx} (F : Fx X cX12_work RX12 10 4 0 0) {I A : Nat → Nat → Int32} {J : Nat → Nat → Int64} {x1 x2 x3 : Int32}
    (o_1 : digV (A 54) 8)
    (o_2 : 1 ≤ (36 : Int32) ∧ (36 : Int32) ≤ 64)
    (e_3 : WA X (mS I (up1 A 54 (putR (A 54) 8 (valR (A 54) 8 / (36 : Int32).toNatClampNeg))) J) plM 0 0 204 [(0, .ref 0), (1, .int x1), (2, .int x2), (3, .int x3)] []) :
    WA X (mS I A J) plM 0 0 194 [(0, .ref 0), (1, .int x1), (2, .int x2), (3, .int x3)] [] := by
  refine a_aload_n F 0 dX12_work_194 rfl rfl ?_
  refine a_getr (b := 54) F fl_12_97 rfl (by decide) rfl rfl dX12_work_195 ?_
  refine a_bipush (v := 36) F dX12_work_198 (by decide) ?_
  refine a_callS (As := [.ref 54, .int 36]) (st := []) F (c_overI (xl X) I A J 54 (36 : Int32) (by decide) rfl (by decide) (o_1) (o_2)) ml_12_391 sm_yX12_over (by decide) rfl dX12_work_200 (by decide) (Nat.le_refl 0) (Nat.le_refl 0) (hl_r (by decide) (hl_i (hl_i (hl_i hl_nil)))) hs_nil ?_
  rintro _ _ _ ⟨rfl, rfl, rfl⟩ _
  show WA X (mS I (up1 A 54 (putR (A 54) 8 (valR (A 54) 8 / (36 : Int32).toNatClampNeg))) J) plM 0 0 203 [(0, .ref 0), (1, .int x1), (2, .int x2), (3, .int x3)] [.int (nI (valR (A 54) 8 % (36 : Int32).toNatClampNeg))]
  refine a_pop F dX12_work_203 rfl ?_
  exact e_3

theorem r_12_work_204 {X : Ctx} (F : Fx X cX12_work RX12 10 4 0 0) {I A : Nat → Nat → Int32} {J : Nat → Nat → Int64} {x1 x2 x3 : Int32}
    (e_1 : WA X (mS I A J) plM 0 0 209 [(0, .ref 0), (1, .int x1), (2, .int x2), (3, .long 0), (5, .int 0)] []) :
    WA X (mS I A J) plM 0 0 204 [(0, .ref 0), (1, .int x1), (2, .int x2), (3, .int x3)] [] := by
  refine a_lconst (v := 0) F dX12_work_204 (by decide) ?_
  refine a_lstore_n F dX12_work_205 rfl (by decide) rfl ?_
  refine a_iconst (v := 0) F dX12_work_206 (by decide) ?_
  refine a_istore F dX12_work_207 (by decide) rfl ?_
  refine a_sub [2, 3, 4, 1, 0] rfl ?_
  exact e_1

theorem r_12_work_209 {X : Ctx} (F : Fx X cX12_work RX12 10 4 0 0) {Φ : Option Value → HS → List Nat → Prop} (E : Ex X none 0 0 Φ) {I A : Nat → Nat → Int32} {J : Nat → Nat → Int64} {x1 x2 x5 : Int32} {y3 : Int64}
    (e_1 : (8 ≤ x5) → Φ none (mS I A J) plM)
    (o_2 : (¬ (8 ≤ x5)) → vp_in x5 8)
    (o_3 : (¬ (8 ≤ x5)) → vp_in x5 8)
    (o_4 : (¬ (8 ≤ x5)) → vp_in ((8 * x2) + x5) 434112)
    (e_5 : (¬ (8 ≤ x5)) → WA X (mS I (up1 A 49 (upd (A 49) ((8 * x2) + x5).toNatClampNeg (((y3 + (((A 54 x5.toNatClampNeg : Int32).toInt64) + ((A 53 x5.toNatClampNeg : Int32).toInt64))) &&& 268435455 : Int64).toInt32))) J) plM 0 0 209 [(0, .ref 0), (1, .int x1), (2, .int x2), (3, .long ((y3 + (((A 54 x5.toNatClampNeg : Int32).toInt64) + ((A 53 x5.toNatClampNeg : Int32).toInt64))) >>> ((28 : Int32).toInt64 &&& 63))), (5, .int (x5 + 1))] []) :
    WA X (mS I A J) plM 0 0 209 [(0, .ref 0), (1, .int x1), (2, .int x2), (3, .long y3), (5, .int x5)] [] := by
  refine a_iload F 4 dX12_work_209 rfl ?_
  refine a_bipush (v := 8) F dX12_work_211 (by decide) ?_
  refine a_icmp_ge (tgt := 265) F dX12_work_213 (by decide) (fun (c_10 : 8 ≤ x5) => ?_) (fun (c_10 : ¬ (8 ≤ x5)) => ?_)
  · exact a_vret F E dX12_work_265 (Nat.le_refl 0) (Nat.le_refl 0) (e_1 c_10)
  · refine a_lload_n F 3 dX12_work_216 rfl rfl ?_
    refine a_aload_n F 0 dX12_work_217 rfl rfl ?_
    refine a_getr (b := 54) F fl_12_97 rfl (by decide) rfl rfl dX12_work_218 ?_
    refine a_iload F 4 dX12_work_221 rfl ?_
    refine a_iald F (by decide) rfl (o_2 c_10) dX12_work_223 ?_
    refine a_i2l F dX12_work_224 ?_
    refine a_aload_n F 0 dX12_work_225 rfl rfl ?_
    refine a_getr (b := 53) F fl_12_94 rfl (by decide) rfl rfl dX12_work_226 ?_
    refine a_iload F 4 dX12_work_229 rfl ?_
    refine a_iald F (by decide) rfl (o_3 c_10) dX12_work_231 ?_
    refine a_i2l F dX12_work_232 ?_
    refine a_ladd F dX12_work_233 ?_
    refine a_ladd F dX12_work_234 ?_
    refine a_lstore_n F dX12_work_235 rfl (by decide) rfl ?_
    refine a_aload_n F 1 dX12_work_236 rfl rfl ?_
    refine a_getr (b := 49) F fl_12_80 rfl (by decide) rfl rfl dX12_work_237 ?_
    refine a_bipush (v := 8) F dX12_work_240 (by decide) ?_
    refine a_iload_n F 3 dX12_work_242 rfl rfl ?_
    refine a_imul F dX12_work_243 ?_
    refine a_iload F 4 dX12_work_244 rfl ?_
    refine a_iadd F dX12_work_246 ?_
    refine a_lload_n F 0 dX12_work_247 rfl rfl ?_
    refine a_ldc2 F kc_12_357 dX12_work_248 ?_
    refine a_land F dX12_work_251 ?_
    refine a_l2i F dX12_work_252 ?_
    refine a_iast F (by decide) rfl (o_4 c_10) dX12_work_253 ?_
    refine a_lload_n F 0 dX12_work_254 rfl rfl ?_
    refine a_bipush (v := 28) F dX12_work_255 (by decide) ?_
    refine a_lshr F dX12_work_257 ?_
    refine a_lstore_n F dX12_work_258 rfl (by decide) rfl ?_
    refine a_iinc (v := x5 + 1) F 4 dX12_work_259 rfl rfl (by decide) rfl ?_
    refine a_goto (tgt := 209) F dX12_work_262 (by decide) ?_
    refine a_sub [2, 3, 4, 1, 0] rfl ?_
    exact e_5 c_10

set_option maxRecDepth 10000 in
theorem c_work (l : Launch) (I A : Nat → Nat → Int32) (J : Nat → Nat → Int64) (s : Nat) (hs : stnd s) (h0 : s ≠ 0) (hr : rdyS I A) (hd : ∀ t, stnd t → pipS t < pipS s → dnS A t) : Con l 4 yX12_work cX12_work 10 none [.ref 0, .int (nI s)] (mS I A J) plM 0 0 (wkQ I A J s) := by
  refine Con.of (by decide) (Nat.le_of_ble_eq_true rfl) (fun X hX9 hn9 F E => ?_)
  have hn := num_lt hs
  have hs6 : s < 16777216 := hs.1
  have en : ∀ t, stnd t → nmI (nI t) = nI (num t) := fun t ht => by have := ht.1; unfold nmI; rw [nI_clamp (by omega)]
  have hd0 : ∀ a b t, 1 ≤ a → 1 ≤ b → Res s a b t → stnd t ∧ t ≠ s ∧ dnS A t := fun a b t ha hb h => by
    have h1 := (Res_st ha hb hs h).1
    have h2 := Res_pip ha hb hs h0 h
    exact ⟨h1, fun z => by rw [z] at h2; omega, hd t h1 (by omega)⟩
  have fin : ∀ (I1 A1 : Nat → Nat → Int32) (x3 : Int32), (∀ k, k ≠ 58 → I1 0 k = I 0 k) → wkV A A1 s 7 1 → WA X (mS I1 A1 J) plM 0 0 194 [(0, .ref 0), (1, .int (nI s)), (2, .int (nI (num s))), (3, .int x3)] [] := by
    intro I1 A1 x3 fI hv
    refine r_12_work_194 F hv.2.2.2.1 (by decide) ?_
    refine r_12_work_204 F ?_
    rw [show (36 : Int32).toNatClampNeg = 36 from rfl]
    obtain ⟨g1, g2, g3, g4, g5, g6⟩ := hv
    have a53 : A1 53 = A 53 := g1 53 (by decide) (by decide) (by decide) (by decide)
    have hS : valR (A1 54) 8 = sumD (fun a b => eF 36 (bst (eF 36) s a b)) := by
      rw [g5, ← fT_sum]; rfl
    have heq := eF_eq 36 hs h0
    rw [← hS] at heq
    have hsm : eF 36 s < 2 ^ (28 * 8) := by
      have h1 := eF_le 36 s hs
      have h2 : pipS s * 36 ^ 36 ≤ 90 * 36 ^ 36 := Nat.mul_le_mul (pip_90 hs) (Nat.le_refl _)
      have h3 : 90 * 36 ^ 36 < 2 ^ (28 * 8) := by decide +kernel
      omega
    generalize hA2 : up1 A1 54 (putR (A1 54) 8 (valR (A1 54) 8 / 36)) = A2
    have b54 : A2 54 = putR (A1 54) 8 (valR (A1 54) 8 / 36) := by rw [← hA2, up1_s]
    have bq : ∀ q, q ≠ 54 → A2 q = A1 q := fun q hq => by rw [← hA2, up1_p hq]
    generalize valR (A1 54) 8 / 36 = S at b54 heq
    have dS : ∀ k, k < 8 → A2 54 k = nI (S / 2 ^ (28 * k) % 2 ^ 28) := fun k hk => by rw [b54]; exact put_in hk
    have dR : ∀ k, k < 8 → A2 53 k = nI (36 ^ 36 / 2 ^ (28 * k) % 2 ^ 28) := fun k hk => by
      rw [bq 53 (by decide), a53, ← hr.2.2.2.1]; exact val_dg _ hr.2.2.1 k hk
    generalize 36 ^ 36 = R at dR heq
    have lp : ∀ f k, k + f = 8 → WA X (mS I1 (up1 A2 49 (putO (A2 49) (8 * num s) k (S + R))) J) plM 0 0 209 [(0, .ref 0), (1, .int (nI s)), (2, .int (nI (num s))), (3, .long (lN ((S % 2 ^ (28 * k) + R % 2 ^ (28 * k)) / 2 ^ (28 * k)))), (5, .int (nI k))] [] := by
      intro f
      induction f with
      | zero =>
        intro k hk
        obtain rfl : k = 8 := by omega
        have h : (8 : Int32) ≤ nI 8 := by decide
        refine r_12_work_209 F E (fun _ => ?_) (fun z => absurd h z) (fun z => absurd h z) (fun z => absurd h z) (fun z => absurd h z)
        refine ⟨I1, _, rfl, rfl, rfl, fI, fun q q1 q2 q3 q4 q5 => ?_, ⟨?_, ?_, ?_, fun _ a b y1 y2 y3 => ?_⟩, fun t ht hne hdt => ?_⟩
        · rw [up1_p q1, bq q q4]; exact g1 q q2 q3 q4 q5
        · rw [up1_s]; exact putO_val.1
        · rw [up1_s, putO_val.2, ← heq]; exact Nat.mod_eq_of_lt hsm
        · rw [up1_p (by decide), bq 51 (by decide), g2, upd_in]
        · rw [up1_p (by decide), bq 50 (by decide)]; exact g6 a b y1 y2 y3 (by omega)
        · have hnn : num t ≠ num s := fun z => hne (num_inj ht hs z)
          refine dnS_cg (fun k hk => ?_) ?_ (fun d hd => ?_) (wkV_dn hs ht hne ⟨g1, g2, g3, g4, g5, g6⟩ hdt)
          · rw [up1_s, putO_out (by omega), bq 49 (by decide)]
          · rw [up1_p (by decide), bq 51 (by decide)]
          · rw [up1_p (by decide), bq 50 (by decide)]
      | succ f ih =>
        intro k hk
        have h : ¬ (8 : Int32) ≤ nI k := nI_ge (b := 8) (by omega) (by omega)
        have e1 : 8 * nI (num s) + nI k = nI (8 * num s + k) := by rw [lit 8, pk_mul, nI_add]
        refine r_12_work_209 F E (fun z => absurd z h) (fun _ => vp_in_nI (by omega) (by omega)) (fun _ => vp_in_nI (by omega) (by omega)) (fun _ => by rw [e1]; exact vp_in_nI (by omega) (by omega)) (fun _ => ?_)
        have hpos : 0 < 2 ^ (28 * k) := Nat.two_pow_pos _
        have hd1 : S / 2 ^ (28 * k) % 2 ^ 28 < 2 ^ 28 := Nat.mod_lt _ (by decide)
        have hd2 : R / 2 ^ (28 * k) % 2 ^ 28 < 2 ^ 28 := Nat.mod_lt _ (by decide)
        have hcar := carry2_lt (S := S) (R := R) (c := 1) (M := 2 ^ (28 * k)) hpos
        have c3 := cs_3 (S := S) (R := R) (c := 1) (M := 2 ^ (28 * k)) (B := 2 ^ 28) hpos
        have c4 := cs_4 (S := S) (R := R) (c := 1) (M := 2 ^ (28 * k)) (B := 2 ^ 28) hpos
        simp only [Nat.mul_one] at hcar c3 c4
        rw [e1, nI_clamp (show k < 2 ^ 31 by omega), nI_clamp (by omega), up1_s, up1_p (show (54 : Nat) ≠ 49 by decide), up1_p (show (53 : Nat) ≠ 49 by decide), dS k (by omega), dR k (by omega), nI_l (by omega), nI_l (by omega), lN_add, lN_add, ← c3, ← p28, l_full (by rw [p28, c3]; omega), l_shr28 (by rw [p28, c3]; omega), lN_i, up1_up1, nI_1]
        rw [p28, c4, putO_up, Nat.div_div_eq_div_mul, ← p28]
        exact ih (k + 1) (by omega)
    have := lp 8 0 rfl
    rw [putO_0, up1_id, show (S % 2 ^ (28 * 0) + R % 2 ^ (28 * 0)) / 2 ^ (28 * 0) = 0 by simp [Nat.mod_one]] at this
    exact this
  have out : ∀ f a (I1 A1 : Nat → Nat → Int32), a + f = 7 → 1 ≤ a → (∀ k, k ≠ 58 → I1 0 k = I 0 k) → wkV A A1 s a 1 → WA X (mS I1 A1 J) plM 0 0 36 [(0, .ref 0), (1, .int (nI s)), (2, .int (nI (num s))), (3, .int (nI a))] [] := by
    intro f
    induction f with
    | zero =>
      intro a I1 A1 hf ha fI hv
      obtain rfl : a = 7 := by omega
      refine r_12_work_36 F (fun _ => fin I1 A1 _ fI hv) (fun z => absurd (show (6 : Int32) < nI 7 by decide) z)
    | succ f ih =>
      intro a I1 A1 hf ha fI hv
      have h6 : ¬ (6 : Int32) < nI a := fun z => by have := (nI_gtn (k := a) 6 (by omega) (by omega)).mp z; omega
      refine r_12_work_36 F (fun z => absurd z h6) (fun _ => ?_)
      have inn : ∀ g b (I1 A1 : Nat → Nat → Int32), b + g = a + 1 → 1 ≤ b → (∀ k, k ≠ 58 → I1 0 k = I 0 k) → wkV A A1 s a b → WA X (mS I1 A1 J) plM 0 0 45 [(0, .ref 0), (1, .int (nI s)), (2, .int (nI (num s))), (3, .int (nI a)), (4, .int (nI b))] [] := by
        intro g
        induction g with
        | zero =>
          intro b I1 A1 hg hb fI hv
          obtain rfl : b = a + 1 := by omega
          refine r_12_work_45 F (fun _ => ?_) (fun z => absurd ((nI_ltI (by omega) (by omega)).mpr (by omega)) z)
          rw [nI_1]
          exact ih (a + 1) I1 A1 (by omega) (by omega) fI (wkV_row ha hv)
        | succ g ihg =>
          intro b I1 A1 hg hb fI hv
          have hba : ¬ nI a < nI b := fun z => by have := (nI_ltI (by omega) (by omega)).mp z; omega
          refine r_12_work_45 F (fun z => absurd z hba) (fun _ => ?_)
          refine a_callV (b := 0) (As := [.int (nI s), .int (nI a), .int (nI b)]) (st := []) (ci := 12) F (c_standResults (xl X) I1 A1 J s a b hs h0 ⟨ha, by omega⟩ ⟨hb, by omega⟩) ml_12_378 im_yX12_standResults se_yX12_standResults (by decide) (by decide) rfl (by decide) rfl rfl dX12_work_56 (by decide) (Nat.le_refl 0) (Nat.le_refl 0) (hl_r (by decide) (hl_i (hl_i (hl_i (hl_i hl_nil))))) hs_nil ?_
          rintro _ _ _ ⟨I2, A2, n, r, fr, rfl, rfl, rfl, k1, k2, hl, hfr, hres⟩ _
          refine a_istore F dX12_work_59 (by decide) rfl ?_
          refine a_sub [1, 2, 3, 4, 5, 0] rfl ?_
          show WA X (mS I2 A2 J) plM 0 0 61 [(0, .ref 0), (1, .int (nI s)), (2, .int (nI (num s))), (3, .int (nI a)), (4, .int (nI b)), (5, .int (nI fr))] []
          refine r_12_work_61 F ?_
          have fI2 : ∀ k, k ≠ 58 → I2 0 k = I 0 k := fun k hk => (k1 k hk).trans (fI k hk)
          have hv2 := wkV_57 hv k2
          have hn1000 := hl.2.1
          have a52 : A2 52 = A 52 := hv2.1 52 (by decide) (by decide) (by decide) (by decide)
          have done : ∀ t, Res s a b t → stnd t ∧ dnS A2 t := fun t ht => by
            obtain ⟨y1, y2, y3⟩ := hd0 a b t ha hb ht
            exact ⟨y1, wkV_dn hs y1 y2 hv2 y3⟩
          have inL : ∀ i, fr ≤ i → i < n → Res s a b (r i) := fun i i1 i2 => (hres _).mpr ⟨i, i1, i2, rfl⟩
          have lp : ∀ j k (x6 : Int32), k + j = n → fr ≤ k → ((x6 = -1 ∧ k = fr) ∨ (∃ t, x6 = nI (num t) ∧ Res s a b t ∧ ∀ i, fr ≤ i → i < k → eF 36 t < eF 36 (r i) ∨ (eF 36 t = eF 36 (r i) ∧ r i ≤ t))) → WA X (mS I2 A2 J) plM 0 0 68 [(0, .ref 0), (1, .int (nI s)), (2, .int (nI (num s))), (3, .int (nI a)), (4, .int (nI b)), (5, .int (nI fr)), (6, .int x6), (7, .int (nI k))] [] := by
            intro j
            induction j with
            | zero =>
              intro k x6 hk hfk hx
              obtain rfl : k = n := by omega
              rcases hx with ⟨-, z⟩ | ⟨t, rfl, ht, hmin⟩
              · omega
              have hle : I2 0 58 ≤ nI k := by rw [hl.1]; exact (nI_leI (by omega) (by omega)).mpr (Nat.le_refl _)
              refine r_12_work_68 F (fun _ => ?_) (fun z => absurd hle z) (fun z => absurd hle z) (fun z => absurd hle z) (fun z => absurd hle z)
              have hb9 : bst (eF 36) s a b = t := bst_eq ha hb hs ⟨ht, fun u hu => by
                obtain ⟨i, y1, y2, rfl⟩ := (hres u).mp hu
                exact hmin i y1 y2⟩
              have hdl := dn_lt a (by omega) b (by omega) hb (by omega)
              have e1 : 21 * nI (num s) + dnI (nI a) (nI b) = nI (21 * num s + dnN a b) := by
                unfold dnI; rw [nI_clamp (by omega), nI_clamp (by omega), lit 21, pk_mul, nI_add]
              have htn := num_lt (done t ht).1
              refine r_12_work_147 F ⟨⟨(nI_gen 1 (by omega) (by omega)).mpr ha, (nI_len 6 (by omega) (by omega)).mpr (by omega)⟩, (nI_gen 1 (by omega) (by omega)).mpr hb, (nI_len 6 (by omega) (by omega)).mpr (by omega)⟩ (by rw [e1]; exact vp_in_nI (by omega) (by omega)) ?_
              rw [e1, nI_clamp (by omega)]
              have ec : (if nI a = nI b then (1 : Int32) else 2) = nI (if a = b then 1 else 2) := by
                by_cases c : a = b
                · rw [if_pos c, if_pos (by rw [c])]; rfl
                · rw [if_neg c, if_neg (fun z => c ((nI_eq (by omega) (by omega)).mp z))]; rfl
              have dt := (done t ht).2
              refine r_12_work_165 F ⟨(nI_gen 0 (by omega) (by omega)).mpr (Nat.zero_le _), (nI_ltn 54264 (by omega) (by omega)).mpr htn⟩ (by rw [ec]; split <;> decide) (by rw [up1_p (by decide)]; exact hv2.2.2.2.1) (by rw [up1_p (by decide), nI_clamp (by omega)]; exact dt.1) ?_
              rw [ec, nI_1]
              exact ihg (b + 1) I2 _ (by omega) (by omega) fI2 (wkV_add hs (by omega) hb (by omega) hv2 (by rw [hb9]; exact dt.2.1) htn (by rw [hb9]) rfl)
            | succ j ihj =>
              intro k x6 hk hfk hx
              have hle : ¬ I2 0 58 ≤ nI k := fun z => by rw [hl.1] at z; have := (nI_leI (by omega) (by omega)).mp z; omega
              have hrk := inL k hfk (by omega)
              obtain ⟨sk, dk⟩ := done _ hrk
              have ek : A2 57 k = nI (r k) := (hl.2.2 k (by omega)).1
              have hnk := num_lt sk
              have hk6 : r k < 16777216 := sk.1
              refine r_12_work_68 F (fun z => absurd z hle) (fun _ => vp_in_nI (by omega) (by omega)) (fun _ => by rw [nI_clamp (by omega), ek]; exact (std_n (by omega)).mpr sk) (fun _ => by rw [a52]; exact hr.2.1) (fun _ => ?_)
              rw [nI_clamp (by omega), ek, en _ sk]
              rcases hx with ⟨rfl, rfl⟩ | ⟨t, rfl, ht, hmin⟩
              · refine r_12_work_90 F (fun z => absurd rfl z) (fun z => absurd rfl z) ?_
                rw [if_pos rfl]
                refine r_12_work_110 F (fun _ => ?_) (fun z => absurd (by decide) z) (fun z => absurd (by decide) z) (fun z => absurd (by decide) z) (fun z => absurd (by decide) z) (fun z => absurd (by decide) z)
                rw [nI_1]
                exact ihj (k + 1) _ (by omega) (by omega) (Or.inr ⟨r k, rfl, hrk, fun i i1 i2 => by have z : i = k := (by omega); subst z; exact Or.inr ⟨rfl, Nat.le_refl _⟩⟩)
              · obtain ⟨st, dt⟩ := done t ht
                have hnt := num_lt st
                have ht6 : t < 16777216 := st.1
                have hm1 : ¬ nI (num t) = -1 := nI_nm (by omega)
                refine r_12_work_90 F (fun _ => ⟨(nI_gen 0 (by omega) (by omega)).mpr (Nat.zero_le _), (nI_ltn 54264 (by omega) (by omega)).mpr hnk⟩) (fun _ => ⟨(nI_gen 0 (by omega) (by omega)).mpr (Nat.zero_le _), (nI_ltn 54264 (by omega) (by omega)).mpr hnt⟩) ?_
                rw [if_neg hm1]
                obtain ⟨c1, c2⟩ := cmp_r sk st dk dt
                generalize cmpI (A2 49) (nI (num (r k))) (nI (num t)) = cc at c1 c2
                have c3 : cc < 0 ↔ eF 36 (r k) < eF 36 t := by
                  rw [Nat.lt_iff_le_and_ne, ← c2, Ne, ← c1]
                  exact ⟨fun z => by grind, fun z => by grind⟩
                have go1 : (eF 36 (r k) < eF 36 t ∨ (eF 36 (r k) = eF 36 t ∧ t ≤ r k)) → WA X (mS I2 A2 J) plM 0 0 68 [(0, .ref 0), (1, .int (nI s)), (2, .int (nI (num s))), (3, .int (nI a)), (4, .int (nI b)), (5, .int (nI fr)), (6, .int (nI (num (r k)))), (7, .int (nI k + 1))] [] := fun hz => by
                  rw [nI_1]
                  refine ihj (k + 1) _ (by omega) (by omega) (Or.inr ⟨r k, rfl, hrk, fun i i1 i2 => ?_⟩)
                  rcases Nat.lt_or_ge i k with c | c
                  · have := hmin i i1 c; omega
                  · have z : i = k := (by omega)
                    subst z; exact Or.inr ⟨rfl, Nat.le_refl _⟩
                have go2 : (eF 36 t < eF 36 (r k) ∨ (eF 36 t = eF 36 (r k) ∧ r k ≤ t)) → WA X (mS I2 A2 J) plM 0 0 68 [(0, .ref 0), (1, .int (nI s)), (2, .int (nI (num s))), (3, .int (nI a)), (4, .int (nI b)), (5, .int (nI fr)), (6, .int (nI (num t))), (7, .int (nI k + 1))] [] := fun hz => by
                  rw [nI_1]
                  refine ihj (k + 1) _ (by omega) (by omega) (Or.inr ⟨t, rfl, ht, fun i i1 i2 => ?_⟩)
                  rcases Nat.lt_or_ge i k with c | c
                  · exact hmin i i1 c
                  · have z : i = k := (by omega)
                    subst z; exact hz
                have e51 : A2 51 (num t) = nI t := dt.2.2.1
                have le9 : A2 57 (nI k).toNatClampNeg ≤ A2 51 (nI (num t)).toNatClampNeg ↔ r k ≤ t := by
                  rw [nI_clamp (by omega), nI_clamp (by omega), ek, e51]; exact nI_leI (by omega) (by omega)
                refine r_12_work_110 F (fun z => go1 (Or.inl (c3.mp z))) (fun z1 z2 => go2 (by have := (not_congr c3).mp z1; have := (not_congr c1).mp z2; omega)) (fun _ _ => vp_in_nI (by omega) (by omega)) (fun _ _ => vp_in_nI (by omega) (by omega)) (fun z1 z2 z3 => go2 (by have := c1.mp z2; have := le9.mp z3; omega)) (fun z1 z2 z3 => go1 (by have := c1.mp z2; have := (not_congr le9).mp z3; omega))
          exact lp (n - fr) fr (-1) (by omega) (Nat.le_refl _) (Or.inl ⟨rfl, rfl⟩)
      exact inn a 1 I1 A1 (by omega) (by omega) fI hv
  refine r_12_work_0 F ((std_n (by omega)).mpr hs) hr.2.1 (by rw [en s hs]; exact vp_in_nI (by omega) (by omega)) ?_
  rw [en s hs, nI_clamp (by omega)]
  have zl : ∀ f k (A1 : Nat → Nat → Int32), k + f = 8 → (∀ q, q ≠ 54 → A1 q = up1 A 51 (upd (A 51) (num s) (nI s)) q) → (∀ j, j < k → A1 54 j = 0) → WA X (mS I A1 J) plM 0 0 15 [(0, .ref 0), (1, .int (nI s)), (2, .int (nI (num s))), (3, .int (nI k))] [] := by
    intro f
    induction f with
    | zero =>
      intro k A1 hk hq hz
      obtain rfl : k = 8 := by omega
      have h : (8 : Int32) ≤ nI 8 := by decide
      refine r_12_work_15 F (fun _ => ?_) (fun z => absurd h z) (fun z => absurd h z)
      have vz := val_z 8 hz
      exact out 6 1 I A1 rfl (Nat.le_refl _) (fun _ _ => rfl) ⟨fun q q1 q2 q3 q4 => by rw [hq q q3, up1_p q2], by rw [hq 51 (by decide), up1_s], fun k hk => by rw [hq 50 (by decide), up1_p (by decide)], vz.1, vz.2, fun a' b' y1 y2 y3 y4 => by omega⟩
    | succ f ih =>
      intro k A1 hk hq hz
      have h : ¬ (8 : Int32) ≤ nI k := nI_ge (b := 8) (by omega) (by omega)
      refine r_12_work_15 F (fun z => absurd z h) (fun _ => vp_in_nI (by omega) (by omega)) (fun _ => ?_)
      rw [nI_1, nI_clamp (by omega)]
      refine ih (k + 1) _ (by omega) (fun q q1 => by rw [up1_p q1]; exact hq q q1) (fun j hj => ?_)
      rw [up1_s]
      rcases Nat.lt_or_ge j k with c | c
      · rw [upd_out (by omega)]; exact hz j c
      · have z : j = k := (by omega)
        subst z; rw [upd_in]
  exact zl 8 0 _ rfl (fun _ _ => rfl) (fun j hj => absurd hj (by omega))
