def rls (I A : Nat → Nat → Int32) (n : Nat) (r : Nat → Nat) : Prop := I 0 58 = nI n ∧ n ≤ 1000 ∧ ∀ k, k < n → A 57 k = nI (r k) ∧ r k < 16 ^ 6
/-- a list whose part from lo on is a set -/
def rlo (lo n : Nat) (r : Nat → Nat) (S : Nat → Prop) : Prop := lo ≤ n ∧ (∀ t, S t ↔ ∃ k, lo ≤ k ∧ k < n ∧ r k = t) ∧ (∀ i j, lo ≤ i → i < n → lo ≤ j → j < n → r i = r j → i = j)
def card (Q : Nat → Prop) (N : Nat) : Prop := ∀ m (f : Nat → Nat), (∀ i, i < m → Q (f i)) → (∀ i j, i < m → j < m → f i = f j → i = j) → m ≤ N
theorem rlo_card {lo n N : Nat} {r : Nat → Nat} {S Q : Nat → Prop} (h : rlo lo n r S) (hq : card Q N) (hs : ∀ t, S t → Q t) : n ≤ lo + N := by
  have := hq (n - lo) (fun i => r (lo + i)) (fun i hi => hs _ ((h.2.1 _).mpr ⟨lo + i, by omega, by omega, rfl⟩)) (fun i j hi hj e => by have := h.2.2 _ _ (by omega) (by omega) (by omega) (by omega) e; omega)
  omega
theorem rlo_add {lo n t : Nat} {r : Nat → Nat} {S : Nat → Prop} (h : rlo lo n r S) (hn : ∀ k, lo ≤ k → k < n → r k ≠ t) : rlo lo (n + 1) (va_up r n t) (fun u => S u ∨ u = t) := by
  refine ⟨by have := h.1; omega, fun u => ?_, fun i j h1 h2 h3 h4 e => ?_⟩
  · constructor
    · rintro (z | rfl)
      · obtain ⟨k, k1, k2, k3⟩ := (h.2.1 u).mp z
        exact ⟨k, k1, by omega, by rw [va_n (by omega)]; exact k3⟩
      · exact ⟨n, h.1, by omega, va_s⟩
    · rintro ⟨k, k1, k2, k3⟩
      by_cases c : k = n
      · right; rw [c, va_s] at k3; exact k3.symm
      · left; rw [va_n c] at k3; exact (h.2.1 u).mpr ⟨k, k1, by omega, k3⟩
  · by_cases c : i = n <;> by_cases c2 : j = n
    · omega
    · rw [c, va_s, va_n c2] at e; exact absurd e.symm (hn j h3 (by omega))
    · rw [c2, va_s, va_n c] at e; exact absurd e (hn i h1 (by omega))
    · rw [va_n c, va_n c2] at e; exact h.2.2 i j h1 (by omega) h3 (by omega) e
def reQ (I A : Nat → Nat → Int32) (J : Nat → Nat → Int64) (lo t n : Nat) (r : Nat → Nat) : Option Value → HS → List Nat → Prop := fun rv σ' pl' => ∃ I' A' n' r', rv = none ∧ σ' = mS I' A' J ∧ pl' = plM ∧ (∀ k, k ≠ 58 → I' 0 k = I 0 k) ∧ (∀ q, q ≠ 57 → A' q = A q) ∧ rls I' A' n' r' ∧
  (((∃ k, lo ≤ k ∧ k < n ∧ r k = t) ∧ n' = n ∧ r' = r) ∨ ((∀ k, lo ≤ k → k < n → r k ≠ t) ∧ n' = n + 1 ∧ r' = va_up r n t))
def maQ (I A : Nat → Nat → Int32) (J : Nat → Nat → Int64) (lo : Nat) (r : Nat → Nat) (S : Nat → Prop) : Option Value → HS → List Nat → Prop := fun rv σ' pl' => ∃ I' A' n' r', rv = none ∧ σ' = mS I' A' J ∧ pl' = plM ∧ (∀ k, k ≠ 58 → I' 0 k = I 0 k) ∧ (∀ q, q ≠ 57 → A' q = A q) ∧ rls I' A' n' r' ∧ rlo lo n' r' S ∧ ∀ k, k < lo → r' k = r k
theorem sh16 : ∀ q, q < 6 → (1 : Int32) <<< ((4 * (nI (q + 1) - 1)) &&& 31) = nI (16 ^ q) := by decide +kernel

theorem r_12_reach_0 {X : Ctx} (F : Fx X cX12_reach RX12 4 1 0 0) {I A : Nat → Nat → Int32} {J : Nat → Nat → Int64} {x1 x2 : Int32}
    (e_1 : WA X (mS I A J) plM 0 0 2 [(0, .ref 0), (1, .int x1), (2, .int x2), (3, .int x1)] []) :
    WA X (mS I A J) plM 0 0 0 [(0, .ref 0), (1, .int x1), (2, .int x2)] [] := by
  refine a_iload_n F 1 dX12_reach_0 rfl rfl ?_
  refine a_istore_n F dX12_reach_1 rfl (by decide) rfl ?_
  refine a_sub [1, 2, 3, 0] rfl ?_
  exact e_1

theorem r_12_reach_2 {X : Ctx} (F : Fx X cX12_reach RX12 4 1 0 0) {Φ : Option Value → HS → List Nat → Prop} (E : Ex X none 0 0 Φ) {I A : Nat → Nat → Int32} {J : Nat → Nat → Int64} {x1 x2 x3 : Int32}
    (o_1 : ((I 0 58) ≤ x3) → vp_in (I 0 58) 1000)
    (e_2 : ((I 0 58) ≤ x3) → Φ none (mS (up2 I 0 58 ((I 0 58) + 1)) (up1 A 57 (upd (A 57) (I 0 58).toNatClampNeg x2)) J) plM)
    (o_3 : (¬ ((I 0 58) ≤ x3)) → vp_in x3 1000)
    (e_4 : (¬ ((I 0 58) ≤ x3)) → (¬ (A 57 x3.toNatClampNeg) = x2) → WA X (mS I A J) plM 0 0 2 [(0, .ref 0), (1, .int x1), (2, .int x2), (3, .int (x3 + 1))] [])
    (e_5 : (¬ ((I 0 58) ≤ x3)) → ((A 57 x3.toNatClampNeg) = x2) → Φ none (mS I A J) plM) :
    WA X (mS I A J) plM 0 0 2 [(0, .ref 0), (1, .int x1), (2, .int x2), (3, .int x3)] [] := by
  refine a_iload_n F 3 dX12_reach_2 rfl rfl ?_
  refine a_aload_n F 0 dX12_reach_3 rfl rfl ?_
  refine a_geti F fl_12_359 rfl (by decide) rfl dX12_reach_4 ?_
  refine a_icmp_ge (tgt := 27) F dX12_reach_7 (by decide) (fun (c_1 : (I 0 58) ≤ x3) => ?_) (fun (c_1 : ¬ ((I 0 58) ≤ x3)) => ?_)
  · refine a_aload_n F 0 dX12_reach_27 rfl rfl ?_
    refine a_getr (b := 57) F fl_12_100 rfl (by decide) rfl rfl dX12_reach_28 ?_
    refine a_aload_n F 0 dX12_reach_31 rfl rfl ?_
    refine a_geti F fl_12_359 rfl (by decide) rfl dX12_reach_32 ?_
    refine a_iload_n F 2 dX12_reach_35 rfl rfl ?_
    refine a_iast F (by decide) rfl (o_1 c_1) dX12_reach_36 ?_
    refine a_aload_n F 0 dX12_reach_37 rfl rfl ?_
    refine a_dup F dX12_reach_38 rfl ?_
    refine a_geti F fl_12_359 rfl (by decide) rfl dX12_reach_39 ?_
    refine a_iconst (v := 1) F dX12_reach_42 (by decide) ?_
    refine a_iadd F dX12_reach_43 ?_
    refine a_puti F fl_12_359 rfl rfl rfl rfl (by decide) rfl dX12_reach_44 ?_
    exact a_vret F E dX12_reach_47 (Nat.le_refl 0) (Nat.le_refl 0) (e_2 c_1)
  · refine a_aload_n F 0 dX12_reach_10 rfl rfl ?_
    refine a_getr (b := 57) F fl_12_100 rfl (by decide) rfl rfl dX12_reach_11 ?_
    refine a_iload_n F 3 dX12_reach_14 rfl rfl ?_
    refine a_iald F (by decide) rfl (o_3 c_1) dX12_reach_15 ?_
    refine a_iload_n F 2 dX12_reach_16 rfl rfl ?_
    refine a_icmp_ne (tgt := 21) F dX12_reach_17 (by decide) (fun (c_2 : ¬ (A 57 x3.toNatClampNeg) = x2) => ?_) (fun (c_2 : (A 57 x3.toNatClampNeg) = x2) => ?_)
    · refine a_iinc (v := x3 + 1) F 3 dX12_reach_21 rfl rfl (by decide) rfl ?_
      refine a_goto (tgt := 2) F dX12_reach_24 (by decide) ?_
      refine a_sub [1, 2, 3, 0] rfl ?_
      exact e_4 c_1 c_2
    · exact a_vret F E dX12_reach_20 (Nat.le_refl 0) (Nat.le_refl 0) (e_5 c_1 c_2)

set_option maxRecDepth 10000 in
theorem c_reach (l : Launch) (I A : Nat → Nat → Int32) (J : Nat → Nat → Int64) (lo t n : Nat) (r : Nat → Nat) (hr : rls I A n r) (hlo : lo ≤ n) (ht : t < 16 ^ 6) (hroom : (∀ k, lo ≤ k → k < n → r k ≠ t) → n < 1000) : Con l 1 yX12_reach cX12_reach 4 none [.ref 0, .int (nI lo), .int (nI t)] (mS I A J) plM 0 0 (reQ I A J lo t n r) := by
  refine Con.of (by decide) (Nat.le_of_ble_eq_true rfl) (fun X hX9 hn9 F E => ?_)
  obtain ⟨h58, hn, hr⟩ := id hr
  have loop : ∀ f k, k + f = n → lo ≤ k → (∀ j, lo ≤ j → j < k → r j ≠ t) → WA X (mS I A J) plM 0 0 2 [(0, .ref 0), (1, .int (nI lo)), (2, .int (nI t)), (3, .int (nI k))] [] := by
    intro f
    induction f with
    | zero =>
      intro k hk hlk hne
      obtain rfl : k = n := by omega
      have h : I 0 58 ≤ nI k := by rw [h58]; exact (nI_leI (by omega) (by omega)).mpr (Nat.le_refl _)
      have hlt := hroom hne
      refine r_12_reach_2 F E (fun _ => by rw [h58]; exact vp_in_nI (by omega) (by omega)) (fun _ => ?_) (fun z => absurd h z) (fun z => absurd h z) (fun z => absurd h z)
      refine ⟨_, _, k + 1, va_up r k t, rfl, rfl, rfl, fun j hj => up2_k hj, fun q hq => up1_p hq, ⟨by rw [up2_s, h58, nI_1], by omega, fun j hj => ?_⟩, Or.inr ⟨hne, rfl, rfl⟩⟩
      rw [up1_s, h58, nI_clamp (by omega)]
      by_cases c : j = k
      · subst c; rw [upd_in, va_s]; exact ⟨rfl, ht⟩
      · rw [upd_out c, va_n c]; exact hr j (by omega)
    | succ f ih =>
      intro k hk hlk hne
      have h : ¬ I 0 58 ≤ nI k := by rw [h58, nI_leI (by omega) (by omega)]; omega
      have rk := hr k (by omega)
      refine r_12_reach_2 F E (fun z => absurd z h) (fun z => absurd z h) (fun _ => vp_in_nI (by omega) (by omega)) (fun _ => ?_) (fun _ => ?_)
      · rw [nI_clamp (by omega), rk.1, nI_eq (by omega) (by omega), nI_1]; intro c
        refine ih (k + 1) (by omega) (by omega) (fun j h1 h2 => ?_)
        rcases Nat.lt_or_ge j k with z | z
        · exact hne j h1 z
        · obtain rfl : j = k := by omega
          exact c
      · rw [nI_clamp (by omega), rk.1, nI_eq (by omega) (by omega)]; intro c
        exact ⟨I, A, n, r, rfl, rfl, rfl, fun _ _ => rfl, fun _ _ => rfl, ⟨h58, hn, hr⟩, Or.inl ⟨⟨k, hlk, by omega, c⟩, rfl, rfl⟩⟩
  refine r_12_reach_0 F ?_
  exact loop (n - lo) lo (by omega) (Nat.le_refl _) (fun j h1 h2 => by omega)

theorem r_12_moveAll_0 {X : Ctx} (F : Fx X cX12_moveAll RX12 10 2 0 0) {I A : Nat → Nat → Int32} {J : Nat → Nat → Int64} {x1 x2 x3 x4 : Int32}
    (e_1 : WA X (mS I A J) plM 0 0 3 [(0, .ref 0), (1, .int x1), (2, .int x2), (3, .int x3), (4, .int x4), (5, .int x1)] []) :
    WA X (mS I A J) plM 0 0 0 [(0, .ref 0), (1, .int x1), (2, .int x2), (3, .int x3), (4, .int x4)] [] := by
  refine a_iload_n F 1 dX12_moveAll_0 rfl rfl ?_
  refine a_istore F dX12_moveAll_1 (by decide) rfl ?_
  refine a_sub [1, 2, 3, 4, 5, 0] rfl ?_
  exact e_1

theorem r_12_moveAll_3 {X : Ctx} (F : Fx X cX12_moveAll RX12 10 2 0 0) {Φ : Option Value → HS → List Nat → Prop} (E : Ex X none 0 0 Φ) {I A : Nat → Nat → Int32} {J : Nat → Nat → Int64} {x1 x2 x3 x4 x5 : Int32}
    (e_1 : (x2 ≤ x5) → Φ none (mS I A J) plM)
    (o_2 : (¬ (x2 ≤ x5)) → vp_in x5 1000)
    (e_3 : (¬ (x2 ≤ x5)) → WA X (mS I A J) plM 0 0 25 [(0, .ref 0), (1, .int x1), (2, .int x2), (3, .int x3), (4, .int x4), (5, .int x5), (6, .int (A 57 x5.toNatClampNeg)), (7, .int 0), (8, .int 6)] []) :
    WA X (mS I A J) plM 0 0 3 [(0, .ref 0), (1, .int x1), (2, .int x2), (3, .int x3), (4, .int x4), (5, .int x5)] [] := by
  refine a_iload F 5 dX12_moveAll_3 rfl ?_
  refine a_iload_n F 2 dX12_moveAll_5 rfl rfl ?_
  refine a_icmp_ge (tgt := 118) F dX12_moveAll_6 (by decide) (fun (c_1 : x2 ≤ x5) => ?_) (fun (c_1 : ¬ (x2 ≤ x5)) => ?_)
  · exact a_vret F E dX12_moveAll_118 (Nat.le_refl 0) (Nat.le_refl 0) (e_1 c_1)
  · refine a_aload_n F 0 dX12_moveAll_9 rfl rfl ?_
    refine a_getr (b := 57) F fl_12_100 rfl (by decide) rfl rfl dX12_moveAll_10 ?_
    refine a_iload F 5 dX12_moveAll_13 rfl ?_
    refine a_iald F (by decide) rfl (o_2 c_1) dX12_moveAll_15 ?_
    refine a_istore F dX12_moveAll_16 (by decide) rfl ?_
    refine a_iconst (v := 0) F dX12_moveAll_18 (by decide) ?_
    refine a_istore F dX12_moveAll_19 (by decide) rfl ?_
    refine a_bipush (v := 6) F dX12_moveAll_21 (by decide) ?_
    refine a_istore F dX12_moveAll_23 (by decide) rfl ?_
    refine a_sub [3, 4, 5, 6, 7, 8, 2, 1, 0] rfl ?_
    exact e_3 c_1

theorem r_12_moveAll_25 {X : Ctx} (F : Fx X cX12_moveAll RX12 10 2 0 0) {I A : Nat → Nat → Int32} {J : Nat → Nat → Int64} {x1 x2 x3 x4 x5 x6 x7 x8 : Int32}
    (e_1 : (x8 ≤ 0) → WA X (mS I A J) plM 0 0 3 [(0, .ref 0), (1, .int x1), (2, .int x2), (3, .int x3), (4, .int x4), (5, .int (x5 + 1))] [])
    (o_2 : (¬ (x8 ≤ 0)) → 0 ≤ x6 ∧ 1 ≤ x8 ∧ x8 ≤ 6)
    (e_3 : (¬ (x8 ≤ 0)) → (¬ (onI x6 x8) = 0) → (x8 ≤ x3) → (x8 = x3) → WA X (mS I A J) plM 0 0 100 [(9, .int (x6 - (1 <<< ((4 * (x8 - 1)) &&& 31)))), (0, .ref 0), (1, .int x1), (2, .int x2), (3, .int x3), (4, .int x4), (5, .int x5), (6, .int x6), (7, .int x7), (8, .int x8)] [.int (x6 - (1 <<< ((4 * (x8 - 1)) &&& 31))), .int x4, .ref 0])
    (e_4 : (¬ (x8 ≤ 0)) → (¬ (onI x6 x8) = 0) → (x8 ≤ x3) → (¬ (x8 = x3)) → (¬ x7 = 0) → WA X (mS I A J) plM 0 0 103 [(0, .ref 0), (1, .int x1), (2, .int x2), (3, .int x3), (4, .int x4), (5, .int x5), (6, .int x6), (7, .int x7), (8, .int x8), (9, .int (x6 - (1 <<< ((4 * (x8 - 1)) &&& 31))))] [])
    (e_5 : (¬ (x8 ≤ 0)) → (¬ (onI x6 x8) = 0) → (x8 ≤ x3) → (¬ (x8 = x3)) → (x7 = 0) → WA X (mS I A J) plM 0 0 100 [(9, .int (x6 - (1 <<< ((4 * (x8 - 1)) &&& 31)))), (0, .ref 0), (1, .int x1), (2, .int x2), (3, .int x3), (4, .int x4), (5, .int x5), (6, .int x6), (7, .int x7), (8, .int x8)] [.int (x6 - (1 <<< ((4 * (x8 - 1)) &&& 31))), .int x4, .ref 0])
    (e_6 : (¬ (x8 ≤ 0)) → (¬ (onI x6 x8) = 0) → (¬ (x8 ≤ x3)) → WA X (mS I A J) plM 0 0 78 [(9, .int (x6 - (1 <<< ((4 * (x8 - 1)) &&& 31)))), (0, .ref 0), (1, .int x1), (2, .int x2), (3, .int x3), (4, .int x4), (5, .int x5), (6, .int x6), (7, .int x7), (8, .int x8)] [.int ((x6 - (1 <<< ((4 * (x8 - 1)) &&& 31))) + (1 <<< ((4 * ((x8 - x3) - 1)) &&& 31))), .int x4, .ref 0])
    (e_7 : (¬ (x8 ≤ 0)) → ((onI x6 x8) = 0) → WA X (mS I A J) plM 0 0 25 [(0, .ref 0), (1, .int x1), (2, .int x2), (3, .int x3), (4, .int x4), (5, .int x5), (6, .int x6), (7, .int x7), (8, .int (x8 + (-1)))] []) :
    WA X (mS I A J) plM 0 0 25 [(0, .ref 0), (1, .int x1), (2, .int x2), (3, .int x3), (4, .int x4), (5, .int x5), (6, .int x6), (7, .int x7), (8, .int x8)] [] := by
  refine a_iload F 8 dX12_moveAll_25 rfl ?_
  refine a_if_le (tgt := 112) F dX12_moveAll_27 (by decide) (fun (c_2 : x8 ≤ 0) => ?_) (fun (c_2 : ¬ (x8 ≤ 0)) => ?_)
  · refine a_iinc (v := x5 + 1) F 5 dX12_moveAll_112 rfl rfl (by decide) rfl ?_
    refine a_goto (tgt := 3) F dX12_moveAll_115 (by decide) ?_
    refine a_sub [1, 2, 3, 4, 5, 0] rfl ?_
    exact e_1 c_2
  · refine a_iload F 6 dX12_moveAll_30 rfl ?_
    refine a_iload F 8 dX12_moveAll_32 rfl ?_
    refine a_callS (As := [.int x6, .int x8]) (st := []) F (c_on (xl X) I A J x6 x8 (o_2 c_2)) ml_12_344 sm_yX12_on (by decide) rfl dX12_moveAll_34 (by decide) (Nat.le_refl 0) (Nat.le_refl 0) (hl_r (by decide) (hl_i (hl_i (hl_i (hl_i (hl_i (hl_i (hl_i (hl_i hl_nil))))))))) hs_nil ?_
    rintro _ _ _ ⟨rfl, rfl, rfl⟩ _
    show WA X (mS I A J) plM 0 0 37 [(0, .ref 0), (1, .int x1), (2, .int x2), (3, .int x3), (4, .int x4), (5, .int x5), (6, .int x6), (7, .int x7), (8, .int x8)] [.int (onI x6 x8)]
    refine a_if_ne (tgt := 43) F dX12_moveAll_37 (by decide) (fun (c_3 : ¬ (onI x6 x8) = 0) => ?_) (fun (c_3 : (onI x6 x8) = 0) => ?_)
    · refine a_iload F 6 dX12_moveAll_43 rfl ?_
      refine a_iconst (v := 1) F dX12_moveAll_45 (by decide) ?_
      refine a_iconst (v := 4) F dX12_moveAll_46 (by decide) ?_
      refine a_iload F 8 dX12_moveAll_47 rfl ?_
      refine a_iconst (v := 1) F dX12_moveAll_49 (by decide) ?_
      refine a_isub F dX12_moveAll_50 ?_
      refine a_imul F dX12_moveAll_51 ?_
      refine a_ishl F dX12_moveAll_52 ?_
      refine a_isub F dX12_moveAll_53 ?_
      refine a_istore F dX12_moveAll_54 (by decide) rfl ?_
      refine a_iload F 9 dX12_moveAll_56 rfl ?_
      refine a_iload_n F 4 dX12_moveAll_58 rfl rfl ?_
      refine a_icmp_le (tgt := 84) F dX12_moveAll_59 (by decide) (fun (c_4 : x8 ≤ x3) => ?_) (fun (c_4 : ¬ (x8 ≤ x3)) => ?_)
      · refine a_iload F 9 dX12_moveAll_84 rfl ?_
        refine a_iload_n F 4 dX12_moveAll_86 rfl rfl ?_
        refine a_icmp_eq (tgt := 95) F dX12_moveAll_87 (by decide) (fun (c_5 : x8 = x3) => ?_) (fun (c_5 : ¬ (x8 = x3)) => ?_)
        · refine a_aload_n F 1 dX12_moveAll_95 rfl rfl ?_
          refine a_iload F 5 dX12_moveAll_96 rfl ?_
          refine a_iload F 0 dX12_moveAll_98 rfl ?_
          exact e_3 c_2 c_3 c_4 c_5
        · refine a_iload F 8 dX12_moveAll_90 rfl ?_
          refine a_if_ne (tgt := 103) F dX12_moveAll_92 (by decide) (fun (c_6 : ¬ x7 = 0) => ?_) (fun (c_6 : x7 = 0) => ?_)
          · refine a_sub [1, 2, 3, 4, 5, 6, 7, 8, 9, 0] rfl ?_
            exact e_4 c_2 c_3 c_4 c_5 c_6
          · refine a_aload_n F 1 dX12_moveAll_95 rfl rfl ?_
            refine a_iload F 5 dX12_moveAll_96 rfl ?_
            refine a_iload F 0 dX12_moveAll_98 rfl ?_
            exact e_5 c_2 c_3 c_4 c_5 c_6
      · refine a_aload_n F 1 dX12_moveAll_62 rfl rfl ?_
        refine a_iload F 5 dX12_moveAll_63 rfl ?_
        refine a_iload F 0 dX12_moveAll_65 rfl ?_
        refine a_iconst (v := 1) F dX12_moveAll_67 (by decide) ?_
        refine a_iconst (v := 4) F dX12_moveAll_68 (by decide) ?_
        refine a_iload F 9 dX12_moveAll_69 rfl ?_
        refine a_iload_n F 4 dX12_moveAll_71 rfl rfl ?_
        refine a_isub F dX12_moveAll_72 ?_
        refine a_iconst (v := 1) F dX12_moveAll_73 (by decide) ?_
        refine a_isub F dX12_moveAll_74 ?_
        refine a_imul F dX12_moveAll_75 ?_
        refine a_ishl F dX12_moveAll_76 ?_
        refine a_iadd F dX12_moveAll_77 ?_
        exact e_6 c_2 c_3 c_4
    · refine a_goto (tgt := 106) F dX12_moveAll_40 (by decide) ?_
      refine a_iinc (v := x8 + (-1)) F 8 dX12_moveAll_106 rfl rfl (by decide) rfl ?_
      refine a_goto (tgt := 25) F dX12_moveAll_109 (by decide) ?_
      refine a_sub [1, 2, 3, 4, 5, 6, 7, 8, 0] rfl ?_
      exact e_7 c_2 c_3

theorem r_12_moveAll_81 {X : Ctx} (F : Fx X cX12_moveAll RX12 10 2 0 0) {I A : Nat → Nat → Int32} {J : Nat → Nat → Int64} {x1 x2 x3 x4 x5 x6 x7 x8 x9 : Int32}
    (e_1 : WA X (mS I A J) plM 0 0 103 [(0, .ref 0), (1, .int x1), (2, .int x2), (3, .int x3), (4, .int x4), (5, .int x5), (6, .int x6), (7, .int x7), (8, .int x8), (9, .int x9)] []) :
    WA X (mS I A J) plM 0 0 81 [(0, .ref 0), (1, .int x1), (2, .int x2), (3, .int x3), (4, .int x4), (5, .int x5), (6, .int x6), (7, .int x7), (8, .int x8), (9, .int x9)] [] := by
  refine a_goto (tgt := 103) F dX12_moveAll_81 (by decide) ?_
  exact e_1

theorem r_12_moveAll_103 {X : Ctx} (F : Fx X cX12_moveAll RX12 10 2 0 0) {I A : Nat → Nat → Int32} {J : Nat → Nat → Int64} {x1 x2 x3 x4 x5 x6 x7 x8 x9 : Int32}
    (e_1 : WA X (mS I A J) plM 0 0 25 [(0, .ref 0), (1, .int x1), (2, .int x2), (3, .int x3), (4, .int x4), (5, .int x5), (6, .int x6), (7, .int 1), (8, .int (x8 + (-1)))] []) :
    WA X (mS I A J) plM 0 0 103 [(0, .ref 0), (1, .int x1), (2, .int x2), (3, .int x3), (4, .int x4), (5, .int x5), (6, .int x6), (7, .int x7), (8, .int x8), (9, .int x9)] [] := by
  refine a_iconst (v := 1) F dX12_moveAll_103 (by decide) ?_
  refine a_istore F dX12_moveAll_104 (by decide) rfl ?_
  refine a_iinc (v := x8 + (-1)) F 8 dX12_moveAll_106 rfl rfl (by decide) rfl ?_
  refine a_goto (tgt := 25) F dX12_moveAll_109 (by decide) ?_
  refine a_sub [2, 3, 4, 5, 6, 7, 8, 1, 0] rfl ?_
  exact e_1

set_option maxRecDepth 10000 in
theorem c_moveAll (l : Launch) (I A : Nat → Nat → Int32) (J : Nat → Nat → Int64) (from_ to d lo n N : Nat) (r : Nat → Nat) (S Q : Nat → Prop) (hd1 : 1 ≤ d) (hd6 : d ≤ 6) (hft : from_ ≤ to) (htl : to ≤ lo) (hr : rls I A n r) (hS : rlo lo n r S) (hst : ∀ k, from_ ≤ k → k < to → stnd (r k)) (hQ : card Q N) (hSQ : ∀ t, S t → Q t) (hnQ : ∀ k p, from_ ≤ k → k < to → lgl (r k) p d → Q (mvN (r k) p d)) (hroom : lo + N ≤ 1000) : Con l 2 yX12_moveAll cX12_moveAll 10 none [.ref 0, .int (nI from_), .int (nI to), .int (nI d), .int (nI lo)] (mS I A J) plM 0 0 (maQ I A J lo r (fun t => S t ∨ ∃ k p, from_ ≤ k ∧ k < to ∧ lgl (r k) p d ∧ t = mvN (r k) p d)) := by
  refine Con.of (by decide) (Nat.le_of_ble_eq_true rfl) (fun X hX9 hn9 F E => ?_)
  have outer : ∀ f k (I1 A1 : Nat → Nat → Int32) (n1 : Nat) (r1 : Nat → Nat), k + f = to → from_ ≤ k → (∀ j, j ≠ 58 → I1 0 j = I 0 j) → (∀ q, q ≠ 57 → A1 q = A q) → rls I1 A1 n1 r1 → rlo lo n1 r1 (fun t => S t ∨ ∃ k' p, from_ ≤ k' ∧ k' < k ∧ lgl (r k') p d ∧ t = mvN (r k') p d) → (∀ j, j < lo → r1 j = r j) → WA X (mS I1 A1 J) plM 0 0 3 [(0, .ref 0), (1, .int (nI from_)), (2, .int (nI to)), (3, .int (nI d)), (4, .int (nI lo)), (5, .int (nI k))] [] := by
    intro f
    induction f with
    | zero =>
      intro k I1 A1 n1 r1 hk hfk fI fA hr1 hS1 hlow
      obtain rfl : k = to := by omega
      have h := (nI_leI (a := k) (b := k) (by have := hS.1; have := hr.2.1; omega) (by have := hS.1; have := hr.2.1; omega)).mpr (Nat.le_refl _)
      exact r_12_moveAll_3 F E (fun _ => ⟨I1, A1, n1, r1, rfl, rfl, rfl, fI, fA, hr1, hS1, hlow⟩) (fun z => absurd h z) (fun z => absurd h z)
    | succ f ih =>
      intro k I1 A1 n1 r1 hk hfk fI fA hr1 hS1 hlow
      have hn1 := hr1.2.1
      have hl1 := hS1.1
      have h : ¬ nI to ≤ nI k := fun z => by have := (nI_leI (a := to) (b := k) (by omega) (by omega)).mp z; omega
      refine r_12_moveAll_3 F E (fun z => absurd z h) (fun _ => vp_in_nI (by omega) (by omega)) (fun _ => ?_)
      have hs := hst k hfk (by omega)
      have rk : A1 57 k = nI (r k) := by rw [(hr1.2.2 k (by omega)).1, hlow k (by omega)]
      rw [nI_clamp (by omega), rk]
      generalize hsk : r k = s at hs rk
      have hs6 := hs.1
      have hin : ∀ p, lgl s p d → Q (mvN s p d) := fun p hp => by rw [← hsk] at hp ⊢; exact hnQ k p hfk (by omega) hp
      have inner : ∀ p (x7 : Int32) (I2 A2 : Nat → Nat → Int32) (n2 : Nat) (r2 : Nat → Nat), p ≤ 6 → (x7 = 0 ∨ x7 = 1) → (x7 = 0 ↔ s / 16 ^ p = 0) → (∀ j, j ≠ 58 → I2 0 j = I 0 j) → (∀ q, q ≠ 57 → A2 q = A q) → rls I2 A2 n2 r2 → rlo lo n2 r2 (fun t => (S t ∨ ∃ k' p, from_ ≤ k' ∧ k' < k ∧ lgl (r k') p d ∧ t = mvN (r k') p d) ∨ ∃ q, p < q ∧ lgl s q d ∧ t = mvN s q d) → (∀ j, j < lo → r2 j = r j) → WA X (mS I2 A2 J) plM 0 0 25 [(0, .ref 0), (1, .int (nI from_)), (2, .int (nI to)), (3, .int (nI d)), (4, .int (nI lo)), (5, .int (nI k)), (6, .int (nI s)), (7, .int x7), (8, .int (nI p))] [] := by
        intro p
        induction p with
        | zero =>
          intro x7 I2 A2 n2 r2 _ hx7 hx70 fI2 fA2 hr2 hS2 hlow2
          have h0 : nI 0 ≤ 0 := by decide
          refine r_12_moveAll_25 F (fun _ => ?_) (fun h => absurd h0 h) (fun h => absurd h0 h) (fun h => absurd h0 h) (fun h => absurd h0 h) (fun h => absurd h0 h) (fun h => absurd h0 h)
          rw [nI_1]
          refine ih (k + 1) I2 A2 n2 r2 (by omega) (by omega) fI2 fA2 hr2 ?_ hlow2
          have eS : (fun t => (S t ∨ ∃ k' p, from_ ≤ k' ∧ k' < k ∧ lgl (r k') p d ∧ t = mvN (r k') p d) ∨ ∃ q, 0 < q ∧ lgl s q d ∧ t = mvN s q d) = fun t => S t ∨ ∃ k' p, from_ ≤ k' ∧ k' < k + 1 ∧ lgl (r k') p d ∧ t = mvN (r k') p d := by
            funext t; apply propext
            constructor
            · rintro ((z | ⟨k', p, z1, z2, z3, z4⟩) | ⟨q, z1, z2, z3⟩)
              · exact Or.inl z
              · exact Or.inr ⟨k', p, z1, by omega, z3, z4⟩
              · exact Or.inr ⟨k, q, hfk, by omega, by rw [hsk]; exact z2, by rw [hsk]; exact z3⟩
            · rintro (z | ⟨k', p, z1, z2, z3, z4⟩)
              · exact Or.inl (Or.inl z)
              · rcases Nat.lt_or_ge k' k with c | c
                · exact Or.inl (Or.inr ⟨k', p, z1, c, z3, z4⟩)
                · obtain rfl : k' = k := by omega
                  rw [hsk] at z3 z4
                  exact Or.inr ⟨p, z3.1, z3, z4⟩
          rw [eS] at hS2; exact hS2
        | succ p ihp =>
          intro x7 I2 A2 n2 r2 hp hx7 hx70 fI2 fA2 hr2 hS2 hlow2
          have h0 : ¬ nI (p + 1) ≤ 0 := nI_nle (by omega) (by omega)
          have eon : onI (nI s) (nI (p + 1)) = nI (dgt s (p + 1)) := by unfold onI; rw [nI_clamp (by omega), nI_clamp (by omega)]
          have hdl := dgt_lt s (p + 1)
          have z0 : nI (dgt s (p + 1)) = 0 ↔ dgt s (p + 1) = 0 := nI_z (by omega)
          have edv : s / 16 ^ p = s / 16 ^ (p + 1) * 16 + dgt s (p + 1) := by
            unfold dgt; rw [Nat.add_sub_cancel, Nat.pow_succ, ← Nat.div_div_eq_div_mul, Nat.mul_comm]; exact (Nat.div_add_mod _ _).symm
          have hle : nI (p + 1) ≤ nI d ↔ p + 1 ≤ d := nI_leI (by omega) (by omega)
          have heq : nI (p + 1) = nI d ↔ p + 1 = d := nI_eq (by omega) (by omega)
          have e16 : nI s - 1 <<< ((4 * (nI (p + 1) - 1)) &&& 31) = nI (s - 16 ^ p) ∨ dgt s (p + 1) = 0 := by
            by_cases c : dgt s (p + 1) = 0
            · exact Or.inr c
            · left; rw [sh16 p (by omega), pk_sub]
              have : 1 ≤ s / 16 ^ p := by omega
              exact (Nat.one_le_div_iff (Nat.pow_pos (by decide))).mp this
          -- the set does not change where no move is
          have skip : ∀ x7' : Int32, ¬ lgl s (p + 1) d → (x7' = 0 ∨ x7' = 1) → (x7' = 0 ↔ s / 16 ^ p = 0) → WA X (mS I2 A2 J) plM 0 0 25 [(0, .ref 0), (1, .int (nI from_)), (2, .int (nI to)), (3, .int (nI d)), (4, .int (nI lo)), (5, .int (nI k)), (6, .int (nI s)), (7, .int x7'), (8, .int (nI (p + 1) + (-1)))] [] := by
            intro x7' hnl hx hx0
            rw [nI_m1]
            refine ihp x7' I2 A2 n2 r2 (by omega) hx hx0 fI2 fA2 hr2 ?_ hlow2
            have eS : (fun t => (S t ∨ ∃ k' p, from_ ≤ k' ∧ k' < k ∧ lgl (r k') p d ∧ t = mvN (r k') p d) ∨ ∃ q, p + 1 < q ∧ lgl s q d ∧ t = mvN s q d) = fun t => (S t ∨ ∃ k' p, from_ ≤ k' ∧ k' < k ∧ lgl (r k') p d ∧ t = mvN (r k') p d) ∨ ∃ q, p < q ∧ lgl s q d ∧ t = mvN s q d := by
              funext t; apply propext
              constructor
              · rintro (z | ⟨q, z1, z2⟩)
                · exact Or.inl z
                · exact Or.inr ⟨q, by omega, z2⟩
              · rintro (z | ⟨q, z1, z2, z3⟩)
                · exact Or.inl z
                · rcases Nat.lt_or_ge (p + 1) q with c | c
                  · exact Or.inr ⟨q, c, z2, z3⟩
                  · obtain rfl : q = p + 1 := by omega
                    exact absurd z2 hnl
            rw [eS] at hS2; exact hS2
          -- a move is made
          have go : lgl s (p + 1) d → reQ I2 A2 J lo (mvN s (p + 1) d) n2 r2 = reQ I2 A2 J lo (mvN s (p + 1) d) n2 r2 ∧ (∀ I3 A3 n3 r3, (∀ j, j ≠ 58 → I3 0 j = I2 0 j) → (∀ q, q ≠ 57 → A3 q = A2 q) → rls I3 A3 n3 r3 → (((∃ k, lo ≤ k ∧ k < n2 ∧ r2 k = mvN s (p + 1) d) ∧ n3 = n2 ∧ r3 = r2) ∨ ((∀ k, lo ≤ k → k < n2 → r2 k ≠ mvN s (p + 1) d) ∧ n3 = n2 + 1 ∧ r3 = va_up r2 n2 (mvN s (p + 1) d))) → ∀ x9 : Int32, WA X (mS I3 A3 J) plM 0 0 103 [(0, .ref 0), (1, .int (nI from_)), (2, .int (nI to)), (3, .int (nI d)), (4, .int (nI lo)), (5, .int (nI k)), (6, .int (nI s)), (7, .int x7), (8, .int (nI (p + 1))), (9, .int x9)] []) := by
            intro hl
            refine ⟨rfl, fun I3 A3 n3 r3 fI3 fA3 hr3 hor x9 => ?_⟩
            refine r_12_moveAll_103 F ?_
            rw [nI_m1]
            have hne : ¬ s / 16 ^ p = 0 := by have := hl.2.2.1; omega
            have eS : ∀ (T : Nat → Prop), (∀ t, T t ↔ ((S t ∨ ∃ k' p, from_ ≤ k' ∧ k' < k ∧ lgl (r k') p d ∧ t = mvN (r k') p d) ∨ ∃ q, p + 1 < q ∧ lgl s q d ∧ t = mvN s q d) ∨ t = mvN s (p + 1) d) → T = fun t => (S t ∨ ∃ k' p, from_ ≤ k' ∧ k' < k ∧ lgl (r k') p d ∧ t = mvN (r k') p d) ∨ ∃ q, p < q ∧ lgl s q d ∧ t = mvN s q d := fun T hT => by
              funext t; apply propext; rw [hT t]
              constructor
              · rintro ((z | ⟨q, z1, z2⟩) | z)
                · exact Or.inl z
                · exact Or.inr ⟨q, by omega, z2⟩
                · exact Or.inr ⟨p + 1, by omega, hl, z⟩
              · rintro (z | ⟨q, z1, z2, z3⟩)
                · exact Or.inl (Or.inl z)
                · rcases Nat.lt_or_ge (p + 1) q with c | c
                  · exact Or.inl (Or.inr ⟨q, c, z2, z3⟩)
                  · obtain rfl : q = p + 1 := by omega
                    exact Or.inr z3
            refine ihp 1 I3 A3 n3 r3 (by omega) (Or.inr rfl) ⟨fun z => absurd z (by decide), fun z => absurd z hne⟩ (fun j hj => (fI3 j hj).trans (fI2 j hj)) (fun q hq => (fA3 q hq).trans (fA2 q hq)) hr3 ?_ ?_
            · rcases hor with ⟨⟨k1, z1, z2, z3⟩, rfl, rfl⟩ | ⟨z1, rfl, rfl⟩
              · rw [← eS _ (fun t => ⟨Or.inl, fun z => z.elim id (fun e => by rw [e]; exact (hS2.2.1 _).mpr ⟨k1, z1, z2, z3⟩)⟩)]; exact hS2
              · rw [← eS _ (fun t => Iff.rfl)]; exact rlo_add hS2 z1
            · intro j hj
              have := hS2.1
              rcases hor with ⟨-, rfl, rfl⟩ | ⟨-, rfl, rfl⟩
              · exact hlow2 j hj
              · rw [va_n (by omega)]; exact hlow2 j hj
          have room : lgl s (p + 1) d → (∀ k, lo ≤ k → k < n2 → r2 k ≠ mvN s (p + 1) d) → n2 < 1000 := fun hl hne => by
            have := rlo_card (rlo_add hS2 hne) hQ (fun t ht => by
              rcases ht with ((z | ⟨k', p', z1, z2, z3, z4⟩) | ⟨q, z1, z2, z3⟩) | z
              · exact hSQ t z
              · rw [z4]; exact hnQ k' p' z1 (by omega) z3
              · rw [z3]; exact hin q z2
              · rw [z]; exact hin _ hl)
            omega
          have mst : lgl s (p + 1) d → mvN s (p + 1) d < 16 ^ 6 := fun hl => (lgl_mv hs hd1 hl).1.1
          have lgP : dgt s (p + 1) ≠ 0 → (d ≤ p + 1 ∨ s / 16 ^ (p + 1) = 0) → lgl s (p + 1) d := fun a b => ⟨by omega, by omega, by omega, b⟩
          refine r_12_moveAll_25 F (fun h => absurd h h0) (fun _ => ⟨nI_pos' (by omega), (nI_gen 1 (by omega) (by omega)).mpr (by omega), (nI_len 6 (by omega) (by omega)).mpr (by omega)⟩) ?_ ?_ ?_ ?_ ?_
          all_goals rw [eon, z0]
          · rw [hle, heq]; intro _ c1 c2 c3
            have hl := lgP c1 (Or.inl (by omega))
            have em : mvN s (p + 1) d = s - 16 ^ p := by unfold mvN; rw [if_neg (by omega), Nat.add_sub_cancel, Nat.add_zero]
            rw [e16.resolve_right c1, ← em]
            refine a_callV (b := 0) (As := [.int (nI lo), .int (nI (mvN s (p + 1) d))]) (st := []) (ci := 12) F (c_reach (xl X) I2 A2 J lo (mvN s (p + 1) d) n2 r2 hr2 hS2.1 (mst hl) (room hl)) ml_12_362 im_yX12_reach se_yX12_reach (by decide) (by decide) rfl (by decide) rfl rfl dX12_moveAll_100 (by decide) (Nat.le_refl 0) (Nat.le_refl 0) (hl_i (hl_r (by decide) (hl_i (hl_i (hl_i (hl_i (hl_i (hl_i (hl_i (hl_i hl_nil)))))))))) hs_nil ?_
            rintro _ _ _ ⟨I3, A3, n3, r3, rfl, rfl, rfl, q1, q2, q3, q4⟩ _
            refine a_sub [1, 2, 3, 4, 5, 6, 7, 8, 9, 0] rfl ?_
            exact (go hl).2 I3 A3 n3 r3 q1 q2 q3 q4 _
          · rw [hle, heq]; intro _ c1 c2 c3 c4
            refine r_12_moveAll_103 F ?_
            refine skip 1 (fun hl => ?_) (Or.inr rfl) ⟨fun z => absurd z (by decide), fun z => by omega⟩
            rcases hl.2.2.2 with z | z
            · omega
            · exact c4 (hx70.mpr z)
          · rw [hle, heq]; intro _ c1 c2 c3 c4
            have hl := lgP c1 (Or.inr (hx70.mp c4))
            have em : mvN s (p + 1) d = s - 16 ^ p := by unfold mvN; rw [if_neg (by omega), Nat.add_sub_cancel, Nat.add_zero]
            rw [e16.resolve_right c1, ← em]
            refine a_callV (b := 0) (As := [.int (nI lo), .int (nI (mvN s (p + 1) d))]) (st := []) (ci := 12) F (c_reach (xl X) I2 A2 J lo (mvN s (p + 1) d) n2 r2 hr2 hS2.1 (mst hl) (room hl)) ml_12_362 im_yX12_reach se_yX12_reach (by decide) (by decide) rfl (by decide) rfl rfl dX12_moveAll_100 (by decide) (Nat.le_refl 0) (Nat.le_refl 0) (hl_i (hl_r (by decide) (hl_i (hl_i (hl_i (hl_i (hl_i (hl_i (hl_i (hl_i hl_nil)))))))))) hs_nil ?_
            rintro _ _ _ ⟨I3, A3, n3, r3, rfl, rfl, rfl, q1, q2, q3, q4⟩ _
            refine a_sub [1, 2, 3, 4, 5, 6, 7, 8, 9, 0] rfl ?_
            exact (go hl).2 I3 A3 n3 r3 q1 q2 q3 q4 _
          · rw [hle]; intro _ c1 c2
            have hl := lgP c1 (Or.inl (by omega))
            have em : mvN s (p + 1) d = s - 16 ^ p + 16 ^ (p - d) := by unfold mvN; rw [if_pos (by omega), Nat.add_sub_cancel, show p + 1 - d - 1 = p - d by omega]
            have es : (1 : Int32) <<< ((4 * (nI (p + 1) - nI d - 1)) &&& 31) = nI (16 ^ (p - d)) := by rw [pk_sub (by omega), show p + 1 - d = (p - d) + 1 by omega]; exact sh16 (p - d) (by omega)
            rw [e16.resolve_right c1, es, nI_add, ← em]
            refine a_callV (b := 0) (As := [.int (nI lo), .int (nI (mvN s (p + 1) d))]) (st := []) (ci := 12) F (c_reach (xl X) I2 A2 J lo (mvN s (p + 1) d) n2 r2 hr2 hS2.1 (mst hl) (room hl)) ml_12_362 im_yX12_reach se_yX12_reach (by decide) (by decide) rfl (by decide) rfl rfl dX12_moveAll_78 (by decide) (Nat.le_refl 0) (Nat.le_refl 0) (hl_i (hl_r (by decide) (hl_i (hl_i (hl_i (hl_i (hl_i (hl_i (hl_i (hl_i hl_nil)))))))))) hs_nil ?_
            rintro _ _ _ ⟨I3, A3, n3, r3, rfl, rfl, rfl, q1, q2, q3, q4⟩ _
            refine a_sub [1, 2, 3, 4, 5, 6, 7, 8, 9, 0] rfl ?_
            exact r_12_moveAll_81 F ((go hl).2 I3 A3 n3 r3 q1 q2 q3 q4 _)
          · intro _ c1
            refine skip x7 (fun hl => by have := hl.2.2.1; omega) hx7 ?_
            rw [hx70, edv, c1]; omega
      refine inner 6 0 I1 A1 n1 r1 (Nat.le_refl _) (Or.inl rfl) ⟨fun _ => Nat.div_eq_of_lt hs6, fun _ => rfl⟩ fI fA hr1 ?_ hlow
      have eS : (fun t => S t ∨ ∃ k' p, from_ ≤ k' ∧ k' < k ∧ lgl (r k') p d ∧ t = mvN (r k') p d) = fun t => (S t ∨ ∃ k' p, from_ ≤ k' ∧ k' < k ∧ lgl (r k') p d ∧ t = mvN (r k') p d) ∨ ∃ q, 6 < q ∧ lgl s q d ∧ t = mvN s q d := by
        funext t; apply propext
        exact ⟨Or.inl, fun z => z.elim id (fun ⟨q, z1, z2, _⟩ => by have := z2.2.1; omega)⟩
      rw [← eS]; exact hS1
  refine r_12_moveAll_0 F ?_
  refine outer (to - from_) from_ I A n r (by omega) (Nat.le_refl _) (fun _ _ => rfl) (fun _ _ => rfl) hr ?_ (fun _ _ => rfl)
  have eS : S = fun t => S t ∨ ∃ k' p, from_ ≤ k' ∧ k' < from_ ∧ lgl (r k') p d ∧ t = mvN (r k') p d := by
    funext t; apply propext
    exact ⟨Or.inl, fun z => z.elim id (fun ⟨k', p, z1, z2, _⟩ => by omega)⟩
  rw [← eS]; exact hS
