def dgt (s p : Nat) : Nat := s / 16 ^ (p - 1) % 16
def menS (s : Nat) : Nat := sumB (dgt s) 1 6
def pipF (s : Nat) : Nat → Nat := fun p => p * dgt s p
def pipS (s : Nat) : Nat := sumB (pipF s) 1 6
def stnd (s : Nat) : Prop := s < 16 ^ 6 ∧ menS s ≤ 15
theorem dgt_lt (s p : Nat) : dgt s p < 16 := Nat.mod_lt _ (by decide)
theorem on_sh : ∀ p, p < 6 → (((4 * (nI (p + 1) - 1)) &&& 31 : Int32).toBitVec.smod 32).toNat = 4 * p := by decide +kernel
theorem on_n {s p : Nat} (hs : s < 2 ^ 31) (h1 : 1 ≤ p) (h2 : p ≤ 6) : (nI s >>> ((4 * (nI p - 1)) &&& 31)) &&& 15 = nI (dgt s p) := by
  obtain ⟨q, rfl⟩ : ∃ q, p = q + 1 := ⟨p - 1, by omega⟩
  rw [pk_shrN hs _ (4 * q) (on_sh q (by omega)), pk_andN (Nat.lt_of_le_of_lt (Nat.div_le_self _ _) (by omega)) 4 (by decide)]
  unfold dgt; rw [Nat.pow_mul]; rfl
def onI (s p : Int32) : Int32 := nI (dgt s.toNatClampNeg p.toNatClampNeg)
def stdI (x : Int32) : Prop := 0 ≤ x ∧ x ≤ 16777215 ∧ menS x.toNatClampNeg ≤ 15
theorem std_n {s : Nat} (h : s < 2 ^ 31) : stdI (nI s) ↔ stnd s := by
  unfold stdI stnd; rw [nI_clamp h, nI_len 16777215 h (by decide)]
  exact ⟨fun z => ⟨by omega, z.2.2⟩, fun z => ⟨nI_pos' h, by omega, z.2⟩⟩
theorem std_of {x : Int32} (h : stdI x) : ∃ s, stnd s ∧ x = nI s := by
  obtain ⟨s, hs, rfl⟩ := nI_of2 (x := x) (M := 16777215) (n := 16777215) rfl (Int32.not_lt.mpr h.1) h.2.1
  exact ⟨s, (std_n (by omega)).mp h, rfl⟩
theorem su_bd {f : Nat → Nat} {o c : Nat} : ∀ n, (∀ k, k < n → f (o + k) ≤ c) → sumB f o n ≤ n * c
  | 0, _ => by simp [sumB]
  | n + 1, h => by
    have := su_bd n (fun k hk => h k (by omega)); have h2 := h n (by omega)
    simp only [sumB]; rw [Nat.add_mul]; omega

theorem r_12_on_0 {X : Ctx} (F : Fx X cX12_on RX12 2 1 0 0) {Φ : Option Value → HS → List Nat → Prop} (E : Ex X (some .int) 0 0 Φ) {I A : Nat → Nat → Int32} {J : Nat → Nat → Int64} {x0 x1 : Int32}
    (e_1 : Φ (some (.int ((x0 >>> ((4 * (x1 - 1)) &&& 31)) &&& 15))) (mS I A J) plM) :
    WA X (mS I A J) plM 0 0 0 [(0, .int x0), (1, .int x1)] [] := by
  refine a_iload_n F 0 dX12_on_0 rfl rfl ?_
  refine a_iconst (v := 4) F dX12_on_1 (by decide) ?_
  refine a_iload_n F 1 dX12_on_2 rfl rfl ?_
  refine a_iconst (v := 1) F dX12_on_3 (by decide) ?_
  refine a_isub F dX12_on_4 ?_
  refine a_imul F dX12_on_5 ?_
  refine a_ishr F dX12_on_6 ?_
  refine a_bipush (v := 15) F dX12_on_7 (by decide) ?_
  refine a_iand F dX12_on_9 ?_
  exact a_iret F E dX12_on_10 (Nat.le_refl 0) (Nat.le_refl 0) (e_1)

set_option maxRecDepth 10000 in
theorem c_on (l : Launch) (I A : Nat → Nat → Int32) (J : Nat → Nat → Int64) (s p : Int32) (h : 0 ≤ s ∧ 1 ≤ p ∧ p ≤ 6) : Con l 1 yX12_on cX12_on 2 (some .int) [.int s, .int p] (mS I A J) plM 0 0 (PM (some (.int (onI s p))) I A J) := by
  refine Con.of (by decide) (Nat.le_of_ble_eq_true rfl) (fun X hX9 hn9 F E => ?_)
  refine r_12_on_0 F E ?_ <;> (clear F E hn9 hX9; (try clear X); (obtain ⟨k, hk, rfl⟩ := nI_of (x := s) (Int32.not_lt.mpr h.1); obtain ⟨q, hq, rfl⟩ := nI_of2 (x := p) (M := 6) (n := 6) rfl (by grind) h.2.2; have := (nI_gen 1 (by omega) (by omega)).mp h.2.1; rw [on_n hk this hq]; unfold onI; rw [nI_clamp hk, nI_clamp (by omega)]; exact ⟨rfl, rfl, rfl⟩))

theorem r_12_isStand_0 {X : Ctx} (F : Fx X cX12_isStand RX12 3 2 0 0) {Φ : Option Value → HS → List Nat → Prop} (E : Ex X (some .boolean) 0 0 Φ) {I A : Nat → Nat → Int32} {J : Nat → Nat → Int64} {x0 : Int32}
    (e_1 : (x0 < 0) → Φ (some (.int 0)) (mS I A J) plM)
    (e_2 : (¬ (x0 < 0)) → (x0 ≤ 16777215) → WA X (mS I A J) plM 0 0 17 [(0, .int x0), (1, .int 0), (2, .int 1)] [])
    (e_3 : (¬ (x0 < 0)) → (¬ (x0 ≤ 16777215)) → Φ (some (.int 0)) (mS I A J) plM) :
    WA X (mS I A J) plM 0 0 0 [(0, .int x0)] [] := by
  refine a_iload_n F 0 dX12_isStand_0 rfl rfl ?_
  refine a_if_lt (tgt := 11) F dX12_isStand_1 (by decide) (fun (c_1 : x0 < 0) => ?_) (fun (c_1 : ¬ (x0 < 0)) => ?_)
  · refine a_iconst (v := 0) F dX12_isStand_11 (by decide) ?_
    exact a_zret F E (by decide) dX12_isStand_12 (Nat.le_refl 0) (Nat.le_refl 0) (e_1 c_1)
  · refine a_iload_n F 0 dX12_isStand_4 rfl rfl ?_
    refine a_ldcw F kc_12_343 dX12_isStand_5 ?_
    refine a_icmp_le (tgt := 13) F dX12_isStand_8 (by decide) (fun (c_2 : x0 ≤ 16777215) => ?_) (fun (c_2 : ¬ (x0 ≤ 16777215)) => ?_)
    · refine a_iconst (v := 0) F dX12_isStand_13 (by decide) ?_
      refine a_istore_n F dX12_isStand_14 rfl (by decide) rfl ?_
      refine a_iconst (v := 1) F dX12_isStand_15 (by decide) ?_
      refine a_istore_n F dX12_isStand_16 rfl (by decide) rfl ?_
      refine a_sub [2, 1, 0] rfl ?_
      exact e_2 c_1 c_2
    · refine a_iconst (v := 0) F dX12_isStand_11 (by decide) ?_
      exact a_zret F E (by decide) dX12_isStand_12 (Nat.le_refl 0) (Nat.le_refl 0) (e_3 c_1 c_2)

theorem r_12_isStand_17 {X : Ctx} (F : Fx X cX12_isStand RX12 3 2 0 0) {Φ : Option Value → HS → List Nat → Prop} (E : Ex X (some .boolean) 0 0 Φ) {I A : Nat → Nat → Int32} {J : Nat → Nat → Int64} {x0 x1 x2 : Int32}
    (e_1 : (6 < x2) → (15 < x1) → Φ (some (.int 0)) (mS I A J) plM)
    (e_2 : (6 < x2) → (¬ (15 < x1)) → Φ (some (.int 1)) (mS I A J) plM)
    (o_3 : (¬ (6 < x2)) → 0 ≤ x0 ∧ 1 ≤ x2 ∧ x2 ≤ 6)
    (e_4 : (¬ (6 < x2)) → WA X (mS I A J) plM 0 0 17 [(0, .int x0), (1, .int (x1 + (onI x0 x2))), (2, .int (x2 + 1))] []) :
    WA X (mS I A J) plM 0 0 17 [(0, .int x0), (1, .int x1), (2, .int x2)] [] := by
  refine a_iload_n F 2 dX12_isStand_17 rfl rfl ?_
  refine a_bipush (v := 6) F dX12_isStand_18 (by decide) ?_
  refine a_icmp_gt (tgt := 37) F dX12_isStand_20 (by decide) (fun (c_3 : 6 < x2) => ?_) (fun (c_3 : ¬ (6 < x2)) => ?_)
  · refine a_iload_n F 1 dX12_isStand_37 rfl rfl ?_
    refine a_bipush (v := 15) F dX12_isStand_38 (by decide) ?_
    refine a_icmp_gt (tgt := 47) F dX12_isStand_40 (by decide) (fun (c_4 : 15 < x1) => ?_) (fun (c_4 : ¬ (15 < x1)) => ?_)
    · refine a_iconst (v := 0) F dX12_isStand_47 (by decide) ?_
      exact a_zret F E (by decide) dX12_isStand_48 (Nat.le_refl 0) (Nat.le_refl 0) (e_1 c_3 c_4)
    · refine a_iconst (v := 1) F dX12_isStand_43 (by decide) ?_
      refine a_goto (tgt := 48) F dX12_isStand_44 (by decide) ?_
      exact a_zret F E (by decide) dX12_isStand_48 (Nat.le_refl 0) (Nat.le_refl 0) (e_2 c_3 c_4)
  · refine a_iload_n F 1 dX12_isStand_23 rfl rfl ?_
    refine a_iload_n F 0 dX12_isStand_24 rfl rfl ?_
    refine a_iload_n F 2 dX12_isStand_25 rfl rfl ?_
    refine a_callS (As := [.int x0, .int x2]) (st := [.int x1]) F (c_on (xl X) I A J x0 x2 (o_3 c_3)) ml_12_344 sm_yX12_on (by decide) rfl dX12_isStand_26 (Nat.le_of_ble_eq_true rfl) (Nat.le_refl 0) (Nat.le_refl 0) (hl_i (hl_i (hl_i hl_nil))) (hs_i hs_nil) ?_
    rintro _ _ _ ⟨rfl, rfl, rfl⟩ _
    show WA X (mS I A J) plM 0 0 29 [(0, .int x0), (1, .int x1), (2, .int x2)] [.int (onI x0 x2), .int x1]
    refine a_iadd F dX12_isStand_29 ?_
    refine a_istore_n F dX12_isStand_30 rfl (by decide) rfl ?_
    refine a_iinc (v := x2 + 1) F 2 dX12_isStand_31 rfl rfl (by decide) rfl ?_
    refine a_goto (tgt := 17) F dX12_isStand_34 (by decide) ?_
    refine a_sub [2, 1, 0] rfl ?_
    exact e_4 c_3

set_option maxRecDepth 10000 in
theorem c_isStand (l : Launch) (I A : Nat → Nat → Int32) (J : Nat → Nat → Int64) (x : Int32) : Con l 2 yX12_isStand cX12_isStand 3 (some .boolean) [.int x] (mS I A J) plM 0 0 (PM (some (.int (@ite Int32 (stdI x) (Classical.propDecidable _) 1 0))) I A J) := by
  refine Con.of (by decide) (Nat.le_of_ble_eq_true rfl) (fun X hX9 hn9 F E => ?_)
  have no : ¬ stdI x → PM (some (.int (@ite Int32 (stdI x) (Classical.propDecidable _) 1 0))) I A J (some (.int 0)) (mS I A J) plM := fun h => by rw [if_neg h]; exact ⟨rfl, rfl, rfl⟩
  have yes : stdI x → PM (some (.int (@ite Int32 (stdI x) (Classical.propDecidable _) 1 0))) I A J (some (.int 1)) (mS I A J) plM := fun h => by rw [if_pos h]; exact ⟨rfl, rfl, rfl⟩
  refine r_12_isStand_0 F E (fun c => no (fun z => absurd z.1 (Int32.not_le.mpr c))) (fun c1 c2 => ?_) (fun c1 c2 => no (fun z => c2 z.2.1))
  obtain ⟨s, hs, rfl⟩ := nI_of2 (x := x) (M := 16777215) (n := 16777215) rfl c1 c2
  have loop : ∀ f k, k + f = 6 → WA X (mS I A J) plM 0 0 17 [(0, .int (nI s)), (1, .int (nI (sumB (dgt s) 1 k))), (2, .int (nI (1 + k)))] [] := by
    intro f
    induction f with
    | zero =>
      intro k hk
      obtain rfl : k = 6 := by omega
      have hb := su_bd (f := dgt s) (o := 1) (c := 15) 6 (fun k _ => by have := dgt_lt s (1 + k); omega)
      have h7 : (6 : Int32) < nI (1 + 6) := by decide
      have e : (15 : Int32) < nI (sumB (dgt s) 1 6) ↔ 15 < menS s := nI_gtn 15 (by omega) (by omega)
      refine r_12_isStand_17 F E (fun _ c => no (fun z => ?_)) (fun _ c => yes ?_) (fun h => absurd h7 h) (fun h => absurd h7 h)
      · have := ((std_n (by omega)).mp z).2; have := e.mp c; omega
      · exact (std_n (by omega)).mpr ⟨by omega, Nat.le_of_not_lt (fun z => c (e.mpr z))⟩
    | succ f ih =>
      intro k hk
      have h7 : ¬ (6 : Int32) < nI (1 + k) := by rw [nI_gtn 6 (by omega) (by omega)]; omega
      refine r_12_isStand_17 F E (fun h => absurd h h7) (fun h => absurd h h7) (fun _ => ⟨nI_pos' (by omega), (nI_gen 1 (by omega) (by omega)).mpr (by omega), (nI_len 6 (by omega) (by omega)).mpr (by omega)⟩) (fun _ => ?_)
      unfold onI; rw [nI_clamp (by omega), nI_clamp (by omega), nI_add, nI_1]
      exact ih (k + 1) (by omega)
  exact loop 6 0 rfl

theorem r_12_pipsOf_0 {X : Ctx} (F : Fx X cX12_pipsOf RX12 3 2 0 0) {I A : Nat → Nat → Int32} {J : Nat → Nat → Int64} {x0 : Int32}
    (e_1 : WA X (mS I A J) plM 0 0 4 [(0, .int x0), (1, .int 0), (2, .int 1)] []) :
    WA X (mS I A J) plM 0 0 0 [(0, .int x0)] [] := by
  refine a_iconst (v := 0) F dX12_pipsOf_0 (by decide) ?_
  refine a_istore_n F dX12_pipsOf_1 rfl (by decide) rfl ?_
  refine a_iconst (v := 1) F dX12_pipsOf_2 (by decide) ?_
  refine a_istore_n F dX12_pipsOf_3 rfl (by decide) rfl ?_
  refine a_sub [2, 1, 0] rfl ?_
  exact e_1

theorem r_12_pipsOf_4 {X : Ctx} (F : Fx X cX12_pipsOf RX12 3 2 0 0) {Φ : Option Value → HS → List Nat → Prop} (E : Ex X (some .int) 0 0 Φ) {I A : Nat → Nat → Int32} {J : Nat → Nat → Int64} {x0 x1 x2 : Int32}
    (e_1 : (6 < x2) → Φ (some (.int x1)) (mS I A J) plM)
    (o_2 : (¬ (6 < x2)) → 0 ≤ x0 ∧ 1 ≤ x2 ∧ x2 ≤ 6)
    (e_3 : (¬ (6 < x2)) → WA X (mS I A J) plM 0 0 4 [(0, .int x0), (1, .int (x1 + (x2 * (onI x0 x2)))), (2, .int (x2 + 1))] []) :
    WA X (mS I A J) plM 0 0 4 [(0, .int x0), (1, .int x1), (2, .int x2)] [] := by
  refine a_iload_n F 2 dX12_pipsOf_4 rfl rfl ?_
  refine a_bipush (v := 6) F dX12_pipsOf_5 (by decide) ?_
  refine a_icmp_gt (tgt := 26) F dX12_pipsOf_7 (by decide) (fun (c_1 : 6 < x2) => ?_) (fun (c_1 : ¬ (6 < x2)) => ?_)
  · refine a_iload_n F 1 dX12_pipsOf_26 rfl rfl ?_
    exact a_iret F E dX12_pipsOf_27 (Nat.le_refl 0) (Nat.le_refl 0) (e_1 c_1)
  · refine a_iload_n F 1 dX12_pipsOf_10 rfl rfl ?_
    refine a_iload_n F 2 dX12_pipsOf_11 rfl rfl ?_
    refine a_iload_n F 0 dX12_pipsOf_12 rfl rfl ?_
    refine a_iload_n F 2 dX12_pipsOf_13 rfl rfl ?_
    refine a_callS (As := [.int x0, .int x2]) (st := [.int x2, .int x1]) F (c_on (xl X) I A J x0 x2 (o_2 c_1)) ml_12_344 sm_yX12_on (by decide) rfl dX12_pipsOf_14 (Nat.le_of_ble_eq_true rfl) (Nat.le_refl 0) (Nat.le_refl 0) (hl_i (hl_i (hl_i hl_nil))) (hs_i (hs_i hs_nil)) ?_
    rintro _ _ _ ⟨rfl, rfl, rfl⟩ _
    show WA X (mS I A J) plM 0 0 17 [(0, .int x0), (1, .int x1), (2, .int x2)] [.int (onI x0 x2), .int x2, .int x1]
    refine a_imul F dX12_pipsOf_17 ?_
    refine a_iadd F dX12_pipsOf_18 ?_
    refine a_istore_n F dX12_pipsOf_19 rfl (by decide) rfl ?_
    refine a_iinc (v := x2 + 1) F 2 dX12_pipsOf_20 rfl rfl (by decide) rfl ?_
    refine a_goto (tgt := 4) F dX12_pipsOf_23 (by decide) ?_
    refine a_sub [2, 1, 0] rfl ?_
    exact e_3 c_1

set_option maxRecDepth 10000 in
theorem c_pipsOf (l : Launch) (I A : Nat → Nat → Int32) (J : Nat → Nat → Int64) (x : Int32) (h : 0 ≤ x) : Con l 2 yX12_pipsOf cX12_pipsOf 3 (some .int) [.int x] (mS I A J) plM 0 0 (PM (some (.int (nI (pipS x.toNatClampNeg)))) I A J) := by
  refine Con.of (by decide) (Nat.le_of_ble_eq_true rfl) (fun X hX9 hn9 F E => ?_)
  obtain ⟨s, hs, rfl⟩ := nI_of (x := x) (Int32.not_lt.mpr h)
  have loop : ∀ f k, k + f = 6 → WA X (mS I A J) plM 0 0 4 [(0, .int (nI s)), (1, .int (nI (sumB (pipF s) 1 k))), (2, .int (nI (1 + k)))] [] := by
    intro f
    induction f with
    | zero =>
      intro k hk
      obtain rfl : k = 6 := by omega
      have h7 : (6 : Int32) < nI (1 + 6) := by decide
      refine r_12_pipsOf_4 F E (fun _ => ?_) (fun h => absurd h7 h) (fun h => absurd h7 h)
      rw [nI_clamp hs]; exact ⟨rfl, rfl, rfl⟩
    | succ f ih =>
      intro k hk
      have h7 : ¬ (6 : Int32) < nI (1 + k) := by rw [nI_gtn 6 (by omega) (by omega)]; omega
      refine r_12_pipsOf_4 F E (fun h => absurd h h7) (fun _ => ⟨nI_pos' hs, (nI_gen 1 (by omega) (by omega)).mpr (by omega), (nI_len 6 (by omega) (by omega)).mpr (by omega)⟩) (fun _ => ?_)
      unfold onI; rw [nI_clamp hs, nI_clamp (by omega), pk_mul, nI_add, nI_1]
      exact ih (k + 1) (by omega)
  refine r_12_pipsOf_0 F ?_
  exact loop 6 0 rfl

theorem r_12_isKnown_0 {X : Ctx} (F : Fx X cX12_isKnown RX12 2 3 0 0) {Φ : Option Value → HS → List Nat → Prop} (E : Ex X (some .boolean) 0 0 Φ) {I A : Nat → Nat → Int32} {J : Nat → Nat → Int64} {x1 : Int32}
    (o_1 : 0 ≤ x1)
    (e_2 : ((I 0 55) < (nI (pipS x1.toNatClampNeg))) → Φ (some (.int 0)) (mS I A J) plM)
    (e_3 : (¬ ((I 0 55) < (nI (pipS x1.toNatClampNeg)))) → Φ (some (.int 1)) (mS I A J) plM) :
    WA X (mS I A J) plM 0 0 0 [(0, .ref 0), (1, .int x1)] [] := by
  refine a_iload_n F 1 dX12_isKnown_0 rfl rfl ?_
  refine a_callS (As := [.int x1]) (st := []) F (c_pipsOf (xl X) I A J x1 (o_1)) ml_12_347 sm_yX12_pipsOf (by decide) rfl dX12_isKnown_1 (by decide) (Nat.le_refl 0) (Nat.le_refl 0) (hl_r (by decide) (hl_i hl_nil)) hs_nil ?_
  rintro _ _ _ ⟨rfl, rfl, rfl⟩ _
  show WA X (mS I A J) plM 0 0 4 [(0, .ref 0), (1, .int x1)] [.int (nI (pipS x1.toNatClampNeg))]
  refine a_aload_n F 0 dX12_isKnown_4 rfl rfl ?_
  refine a_geti F fl_12_173 rfl (by decide) rfl dX12_isKnown_5 ?_
  refine a_icmp_gt (tgt := 15) F dX12_isKnown_8 (by decide) (fun (c_1 : (I 0 55) < (nI (pipS x1.toNatClampNeg))) => ?_) (fun (c_1 : ¬ ((I 0 55) < (nI (pipS x1.toNatClampNeg)))) => ?_)
  · refine a_iconst (v := 0) F dX12_isKnown_15 (by decide) ?_
    exact a_zret F E (by decide) dX12_isKnown_16 (Nat.le_refl 0) (Nat.le_refl 0) (e_2 c_1)
  · refine a_iconst (v := 1) F dX12_isKnown_11 (by decide) ?_
    refine a_goto (tgt := 16) F dX12_isKnown_12 (by decide) ?_
    exact a_zret F E (by decide) dX12_isKnown_16 (Nat.le_refl 0) (Nat.le_refl 0) (e_3 c_1)

set_option maxRecDepth 10000 in
theorem c_isKnown (l : Launch) (I A : Nat → Nat → Int32) (J : Nat → Nat → Int64) (x : Int32) (h : 0 ≤ x) : Con l 3 yX12_isKnown cX12_isKnown 2 (some .boolean) [.ref 0, .int x] (mS I A J) plM 0 0 (PM (some (.int (if nI (pipS x.toNatClampNeg) ≤ I 0 55 then 1 else 0))) I A J) := by
  refine Con.of (by decide) (Nat.le_of_ble_eq_true rfl) (fun X hX9 hn9 F E => ?_)
  refine r_12_isKnown_0 F E ?_ ?_ ?_ <;> (clear F E hn9 hX9; (try clear X); intros <;> first | (simp_all [PM]; done) | (simp_all [PM]; grind))

def dnN (a b : Nat) : Nat := if b < a then a * (a - 1) / 2 + b - 1 else b * (b - 1) / 2 + a - 1
def dnI (a b : Int32) : Int32 := nI (dnN a.toNatClampNeg b.toNatClampNeg)
theorem dn_t : ∀ a, a < 7 → ∀ b, b < 7 → (if nI a ≤ nI b then (((nI b * (nI b - 1)) / 2) + nI a) - 1 else (((nI a * (nI a - 1)) / 2) + nI b) - 1) = nI (dnN a b) ∨ a = 0 ∨ b = 0 := by decide +kernel
def dblI (d : Int32) : Prop := d = 0 ∨ d = 2 ∨ d = 5 ∨ d = 9 ∨ d = 14 ∨ d = 20

theorem r_12_diceNumber_0 {X : Ctx} (F : Fx X cX12_diceNumber RX12 2 1 0 0) {Φ : Option Value → HS → List Nat → Prop} (E : Ex X (some .int) 0 0 Φ) {I A : Nat → Nat → Int32} {J : Nat → Nat → Int64} {x0 x1 : Int32}
    (e_1 : (x0 ≤ x1) → Φ (some (.int ((((x1 * (x1 - 1)) / 2) + x0) - 1))) (mS I A J) plM)
    (e_2 : (¬ (x0 ≤ x1)) → Φ (some (.int ((((x0 * (x0 - 1)) / 2) + x1) - 1))) (mS I A J) plM) :
    WA X (mS I A J) plM 0 0 0 [(0, .int x0), (1, .int x1)] [] := by
  refine a_iload_n F 0 dX12_diceNumber_0 rfl rfl ?_
  refine a_iload_n F 1 dX12_diceNumber_1 rfl rfl ?_
  refine a_icmp_le (tgt := 19) F dX12_diceNumber_2 (by decide) (fun (c_1 : x0 ≤ x1) => ?_) (fun (c_1 : ¬ (x0 ≤ x1)) => ?_)
  · refine a_iload_n F 1 dX12_diceNumber_19 rfl rfl ?_
    refine a_iload_n F 1 dX12_diceNumber_20 rfl rfl ?_
    refine a_iconst (v := 1) F dX12_diceNumber_21 (by decide) ?_
    refine a_isub F dX12_diceNumber_22 ?_
    refine a_imul F dX12_diceNumber_23 ?_
    refine a_iconst (v := 2) F dX12_diceNumber_24 (by decide) ?_
    refine a_idiv F dX12_diceNumber_25 (by decide) ?_
    refine a_iload_n F 0 dX12_diceNumber_26 rfl rfl ?_
    refine a_iadd F dX12_diceNumber_27 ?_
    refine a_iconst (v := 1) F dX12_diceNumber_28 (by decide) ?_
    refine a_isub F dX12_diceNumber_29 ?_
    exact a_iret F E dX12_diceNumber_30 (Nat.le_refl 0) (Nat.le_refl 0) (e_1 c_1)
  · refine a_iload_n F 0 dX12_diceNumber_5 rfl rfl ?_
    refine a_iload_n F 0 dX12_diceNumber_6 rfl rfl ?_
    refine a_iconst (v := 1) F dX12_diceNumber_7 (by decide) ?_
    refine a_isub F dX12_diceNumber_8 ?_
    refine a_imul F dX12_diceNumber_9 ?_
    refine a_iconst (v := 2) F dX12_diceNumber_10 (by decide) ?_
    refine a_idiv F dX12_diceNumber_11 (by decide) ?_
    refine a_iload_n F 1 dX12_diceNumber_12 rfl rfl ?_
    refine a_iadd F dX12_diceNumber_13 ?_
    refine a_iconst (v := 1) F dX12_diceNumber_14 (by decide) ?_
    refine a_isub F dX12_diceNumber_15 ?_
    refine a_goto (tgt := 30) F dX12_diceNumber_16 (by decide) ?_
    exact a_iret F E dX12_diceNumber_30 (Nat.le_refl 0) (Nat.le_refl 0) (e_2 c_1)

set_option maxRecDepth 10000 in
theorem c_diceNumber (l : Launch) (I A : Nat → Nat → Int32) (J : Nat → Nat → Int64) (a b : Int32) (h : diceP a b) : Con l 1 yX12_diceNumber cX12_diceNumber 2 (some .int) [.int a, .int b] (mS I A J) plM 0 0 (PM (some (.int (dnI a b))) I A J) := by
  refine Con.of (by decide) (Nat.le_of_ble_eq_true rfl) (fun X hX9 hn9 F E => ?_)
  obtain ⟨k, hk, rfl⟩ := nI_of2 (x := a) (M := 6) (n := 6) rfl (by grind [diceP]) h.1.2
  obtain ⟨q, hq, rfl⟩ := nI_of2 (x := b) (M := 6) (n := 6) rfl (by grind [diceP]) h.2.2
  have h1 := (nI_gen 1 (by omega) (by omega)).mp h.1.1
  have h2 := (nI_gen 1 (by omega) (by omega)).mp h.2.1
  have t := dn_t k (by omega) q (by omega)
  have e : dnI (nI k) (nI q) = nI (dnN k q) := by unfold dnI; rw [nI_clamp (by omega), nI_clamp (by omega)]
  refine r_12_diceNumber_0 F E (fun c => ?_) (fun c => ?_)
  · rw [if_pos c] at t; exact ⟨by rw [e, t.resolve_right (by omega)], rfl, rfl⟩
  · rw [if_neg c] at t; exact ⟨by rw [e, t.resolve_right (by omega)], rfl, rfl⟩

theorem r_12_isDouble_0 {X : Ctx} (F : Fx X cX12_isDouble RX12 1 1 0 0) {Φ : Option Value → HS → List Nat → Prop} (E : Ex X (some .boolean) 0 0 Φ) {I A : Nat → Nat → Int32} {J : Nat → Nat → Int64} {x0 : Int32}
    (e_1 : (x0 = 0) → Φ (some (.int 1)) (mS I A J) plM)
    (e_2 : (¬ (x0 = 0)) → (x0 = 2) → Φ (some (.int 1)) (mS I A J) plM)
    (e_3 : (¬ (x0 = 0)) → (¬ (x0 = 2)) → (x0 = 5) → Φ (some (.int 1)) (mS I A J) plM)
    (e_4 : (¬ (x0 = 0)) → (¬ (x0 = 2)) → (¬ (x0 = 5)) → (x0 = 9) → Φ (some (.int 1)) (mS I A J) plM)
    (e_5 : (¬ (x0 = 0)) → (¬ (x0 = 2)) → (¬ (x0 = 5)) → (¬ (x0 = 9)) → (x0 = 14) → Φ (some (.int 1)) (mS I A J) plM)
    (e_6 : (¬ (x0 = 0)) → (¬ (x0 = 2)) → (¬ (x0 = 5)) → (¬ (x0 = 9)) → (¬ (x0 = 14)) → (¬ x0 = 20) → Φ (some (.int 0)) (mS I A J) plM)
    (e_7 : (¬ (x0 = 0)) → (¬ (x0 = 2)) → (¬ (x0 = 5)) → (¬ (x0 = 9)) → (¬ (x0 = 14)) → (x0 = 20) → Φ (some (.int 1)) (mS I A J) plM) :
    WA X (mS I A J) plM 0 0 0 [(0, .int x0)] [] := by
  refine a_iload_n F 0 dX12_isDouble_0 rfl rfl ?_
  refine a_if_eq (tgt := 32) F dX12_isDouble_1 (by decide) (fun (c_1 : x0 = 0) => ?_) (fun (c_1 : ¬ (x0 = 0)) => ?_)
  · refine a_iconst (v := 1) F dX12_isDouble_32 (by decide) ?_
    refine a_goto (tgt := 37) F dX12_isDouble_33 (by decide) ?_
    exact a_zret F E (by decide) dX12_isDouble_37 (Nat.le_refl 0) (Nat.le_refl 0) (e_1 c_1)
  · refine a_iload_n F 0 dX12_isDouble_4 rfl rfl ?_
    refine a_iconst (v := 2) F dX12_isDouble_5 (by decide) ?_
    refine a_icmp_eq (tgt := 32) F dX12_isDouble_6 (by decide) (fun (c_2 : x0 = 2) => ?_) (fun (c_2 : ¬ (x0 = 2)) => ?_)
    · refine a_iconst (v := 1) F dX12_isDouble_32 (by decide) ?_
      refine a_goto (tgt := 37) F dX12_isDouble_33 (by decide) ?_
      exact a_zret F E (by decide) dX12_isDouble_37 (Nat.le_refl 0) (Nat.le_refl 0) (e_2 c_1 c_2)
    · refine a_iload_n F 0 dX12_isDouble_9 rfl rfl ?_
      refine a_iconst (v := 5) F dX12_isDouble_10 (by decide) ?_
      refine a_icmp_eq (tgt := 32) F dX12_isDouble_11 (by decide) (fun (c_3 : x0 = 5) => ?_) (fun (c_3 : ¬ (x0 = 5)) => ?_)
      · refine a_iconst (v := 1) F dX12_isDouble_32 (by decide) ?_
        refine a_goto (tgt := 37) F dX12_isDouble_33 (by decide) ?_
        exact a_zret F E (by decide) dX12_isDouble_37 (Nat.le_refl 0) (Nat.le_refl 0) (e_3 c_1 c_2 c_3)
      · refine a_iload_n F 0 dX12_isDouble_14 rfl rfl ?_
        refine a_bipush (v := 9) F dX12_isDouble_15 (by decide) ?_
        refine a_icmp_eq (tgt := 32) F dX12_isDouble_17 (by decide) (fun (c_4 : x0 = 9) => ?_) (fun (c_4 : ¬ (x0 = 9)) => ?_)
        · refine a_iconst (v := 1) F dX12_isDouble_32 (by decide) ?_
          refine a_goto (tgt := 37) F dX12_isDouble_33 (by decide) ?_
          exact a_zret F E (by decide) dX12_isDouble_37 (Nat.le_refl 0) (Nat.le_refl 0) (e_4 c_1 c_2 c_3 c_4)
        · refine a_iload_n F 0 dX12_isDouble_20 rfl rfl ?_
          refine a_bipush (v := 14) F dX12_isDouble_21 (by decide) ?_
          refine a_icmp_eq (tgt := 32) F dX12_isDouble_23 (by decide) (fun (c_5 : x0 = 14) => ?_) (fun (c_5 : ¬ (x0 = 14)) => ?_)
          · refine a_iconst (v := 1) F dX12_isDouble_32 (by decide) ?_
            refine a_goto (tgt := 37) F dX12_isDouble_33 (by decide) ?_
            exact a_zret F E (by decide) dX12_isDouble_37 (Nat.le_refl 0) (Nat.le_refl 0) (e_5 c_1 c_2 c_3 c_4 c_5)
          · refine a_iload_n F 0 dX12_isDouble_26 rfl rfl ?_
            refine a_bipush (v := 20) F dX12_isDouble_27 (by decide) ?_
            refine a_icmp_ne (tgt := 36) F dX12_isDouble_29 (by decide) (fun (c_6 : ¬ x0 = 20) => ?_) (fun (c_6 : x0 = 20) => ?_)
            · refine a_iconst (v := 0) F dX12_isDouble_36 (by decide) ?_
              exact a_zret F E (by decide) dX12_isDouble_37 (Nat.le_refl 0) (Nat.le_refl 0) (e_6 c_1 c_2 c_3 c_4 c_5 c_6)
            · refine a_iconst (v := 1) F dX12_isDouble_32 (by decide) ?_
              refine a_goto (tgt := 37) F dX12_isDouble_33 (by decide) ?_
              exact a_zret F E (by decide) dX12_isDouble_37 (Nat.le_refl 0) (Nat.le_refl 0) (e_7 c_1 c_2 c_3 c_4 c_5 c_6)

set_option maxRecDepth 10000 in
theorem c_isDouble (l : Launch) (I A : Nat → Nat → Int32) (J : Nat → Nat → Int64) (d : Int32) : Con l 1 yX12_isDouble cX12_isDouble 1 (some .boolean) [.int d] (mS I A J) plM 0 0 (PM (some (.int (@ite Int32 (dblI d) (Classical.propDecidable _) 1 0))) I A J) := by
  refine Con.of (by decide) (Nat.le_of_ble_eq_true rfl) (fun X hX9 hn9 F E => ?_)
  refine r_12_isDouble_0 F E ?_ ?_ ?_ ?_ ?_ ?_ ?_ <;> (clear F E hn9 hX9; (try clear X); (intros; refine ⟨?_, rfl, rfl⟩; first | (rw [if_pos (by unfold dblI; simp_all)]; done) | (rw [if_neg (by unfold dblI; simp_all)]; done)))

theorem r_12_power_0 {X : Ctx} (F : Fx X cX12_power RX12 4 1 0 0) {I A : Nat → Nat → Int32} {J : Nat → Nat → Int64} {x0 : Int32}
    (e_1 : WA X (mS I A J) plM 0 0 4 [(0, .int x0), (1, .long 1), (3, .int 0)] []) :
    WA X (mS I A J) plM 0 0 0 [(0, .int x0)] [] := by
  refine a_lconst (v := 1) F dX12_power_0 (by decide) ?_
  refine a_lstore_n F dX12_power_1 rfl (by decide) rfl ?_
  refine a_iconst (v := 0) F dX12_power_2 (by decide) ?_
  refine a_istore_n F dX12_power_3 rfl (by decide) rfl ?_
  refine a_sub [2, 1, 0] rfl ?_
  exact e_1

theorem r_12_power_4 {X : Ctx} (F : Fx X cX12_power RX12 4 1 0 0) {Φ : Option Value → HS → List Nat → Prop} (E : Ex X (some .long) 0 0 Φ) {I A : Nat → Nat → Int32} {J : Nat → Nat → Int64} {x0 x3 : Int32} {y1 : Int64}
    (e_1 : (x0 ≤ x3) → Φ (some (.long y1)) (mS I A J) plM)
    (e_2 : (¬ (x0 ≤ x3)) → WA X (mS I A J) plM 0 0 4 [(0, .int x0), (1, .long (y1 * 36)), (3, .int (x3 + 1))] []) :
    WA X (mS I A J) plM 0 0 4 [(0, .int x0), (1, .long y1), (3, .int x3)] [] := by
  refine a_iload_n F 2 dX12_power_4 rfl rfl ?_
  refine a_iload_n F 0 dX12_power_5 rfl rfl ?_
  refine a_icmp_ge (tgt := 21) F dX12_power_6 (by decide) (fun (c_1 : x0 ≤ x3) => ?_) (fun (c_1 : ¬ (x0 ≤ x3)) => ?_)
  · refine a_lload_n F 1 dX12_power_21 rfl rfl ?_
    exact a_lret F E dX12_power_22 (Nat.le_refl 0) (Nat.le_refl 0) (e_1 c_1)
  · refine a_lload_n F 1 dX12_power_9 rfl rfl ?_
    refine a_ldc2 F kc_12_420 dX12_power_10 ?_
    refine a_lmul F dX12_power_13 ?_
    refine a_lstore_n F dX12_power_14 rfl (by decide) rfl ?_
    refine a_iinc (v := x3 + 1) F 2 dX12_power_15 rfl rfl (by decide) rfl ?_
    refine a_goto (tgt := 4) F dX12_power_18 (by decide) ?_
    refine a_sub [2, 1, 0] rfl ?_
    exact e_2 c_1

set_option maxRecDepth 10000 in
theorem c_power (l : Launch) (I A : Nat → Nat → Int32) (J : Nat → Nat → Int64) (n : Nat) (hn : n ≤ 12) : Con l 1 yX12_power cX12_power 4 (some .long) [.int (nI n)] (mS I A J) plM 0 0 (PM (some (.long (lN (36 ^ n)))) I A J) := by
  refine Con.of (by decide) (Nat.le_of_ble_eq_true rfl) (fun X hX9 hn9 F E => ?_)
  have loop : ∀ f k, k + f = n → WA X (mS I A J) plM 0 0 4 [(0, .int (nI n)), (1, .long (lN (36 ^ k))), (3, .int (nI k))] [] := by
    intro f
    induction f with
    | zero =>
      intro k hk
      obtain rfl : k = n := by omega
      have h := (nI_leI (a := k) (b := k) (by omega) (by omega)).mpr (Nat.le_refl _)
      exact r_12_power_4 F E (fun _ => ⟨rfl, rfl, rfl⟩) (fun z => absurd h z)
    | succ f ih =>
      intro k hk
      have h : ¬ nI n ≤ nI k := fun z => by have := (nI_leI (a := n) (b := k) (by omega) (by omega)).mp z; omega
      refine r_12_power_4 F E (fun z => absurd z h) (fun _ => ?_)
      rw [show (36 : Int64) = lN 36 from rfl, lN_mul, ← Nat.pow_succ, nI_1]
      exact ih (k + 1) (by omega)
  refine r_12_power_0 F ?_
  exact loop n 0 (by omega)

theorem r_12_isZero_0 {X : Ctx} (F : Fx X cX12_isZero RX12 2 1 0 0) {I A : Nat → Nat → Int32} {J : Nat → Nat → Int64} {q0 : Nat} (hp_q0 : q0 ∈ plM) (hk_q0 : kM q0 = 13)
    (e_1 : WA X (mS I A J) plM 0 0 2 [(0, .ref q0), (1, .int 0)] []) :
    WA X (mS I A J) plM 0 0 0 [(0, .ref q0)] [] := by
  refine a_iconst (v := 0) F dX12_isZero_0 (by decide) ?_
  refine a_istore_n F dX12_isZero_1 rfl (by decide) rfl ?_
  refine a_sub [1, 0] rfl ?_
  exact e_1

theorem r_12_isZero_2 {X : Ctx} (F : Fx X cX12_isZero RX12 2 1 0 0) {Φ : Option Value → HS → List Nat → Prop} (E : Ex X (some .boolean) 0 0 Φ) {I A : Nat → Nat → Int32} {J : Nat → Nat → Int64} {x1 : Int32} {q0 : Nat} (hp_q0 : q0 ∈ plM) (hk_q0 : kM q0 = 13)
    (e_1 : ((Int32.ofNat (nM q0)) ≤ x1) → Φ (some (.int 1)) (mS I A J) plM)
    (o_2 : (¬ ((Int32.ofNat (nM q0)) ≤ x1)) → vp_in x1 (nM q0))
    (e_3 : (¬ ((Int32.ofNat (nM q0)) ≤ x1)) → ((A q0 x1.toNatClampNeg) = 0) → WA X (mS I A J) plM 0 0 2 [(0, .ref q0), (1, .int (x1 + 1))] [])
    (e_4 : (¬ ((Int32.ofNat (nM q0)) ≤ x1)) → (¬ ((A q0 x1.toNatClampNeg) = 0)) → Φ (some (.int 0)) (mS I A J) plM) :
    WA X (mS I A J) plM 0 0 2 [(0, .ref q0), (1, .int x1)] [] := by
  refine a_iload_n F 1 dX12_isZero_2 rfl rfl ?_
  refine a_aload_n F 0 dX12_isZero_3 rfl rfl ?_
  refine a_alen (v := Int32.ofNat (nM q0)) F (hp_q0) hk_q0 (by decide) (by decide) rfl dX12_isZero_4 ?_
  refine a_icmp_ge (tgt := 22) F dX12_isZero_5 (by decide) (fun (c_1 : (Int32.ofNat (nM q0)) ≤ x1) => ?_) (fun (c_1 : ¬ ((Int32.ofNat (nM q0)) ≤ x1)) => ?_)
  · refine a_iconst (v := 1) F dX12_isZero_22 (by decide) ?_
    exact a_zret F E (by decide) dX12_isZero_23 (Nat.le_refl 0) (Nat.le_refl 0) (e_1 c_1)
  · refine a_aload_n F 0 dX12_isZero_8 rfl rfl ?_
    refine a_iload_n F 1 dX12_isZero_9 rfl rfl ?_
    refine a_iald F (hp_q0) hk_q0 (o_2 c_1) dX12_isZero_10 ?_
    refine a_if_eq (tgt := 16) F dX12_isZero_11 (by decide) (fun (c_2 : (A q0 x1.toNatClampNeg) = 0) => ?_) (fun (c_2 : ¬ ((A q0 x1.toNatClampNeg) = 0)) => ?_)
    · refine a_iinc (v := x1 + 1) F 1 dX12_isZero_16 rfl rfl (by decide) rfl ?_
      refine a_goto (tgt := 2) F dX12_isZero_19 (by decide) ?_
      refine a_sub [1, 0] rfl ?_
      exact e_3 c_1 c_2
    · refine a_iconst (v := 0) F dX12_isZero_14 (by decide) ?_
      exact a_zret F E (by decide) dX12_isZero_15 (Nat.le_refl 0) (Nat.le_refl 0) (e_4 c_1 c_2)

set_option maxRecDepth 10000 in
theorem c_isZero (l : Launch) (I A : Nat → Nat → Int32) (J : Nat → Nat → Int64) (q : Nat) (hq : q ∈ plM) (hk : kM q = 13) (hn : nM q ≤ 400) (hd : digV (A q) (nM q)) : Con l 1 yX12_isZero cX12_isZero 2 (some .boolean) [.ref q] (mS I A J) plM 0 0 (PM (some (.int (if valR (A q) (nM q) = 0 then 1 else 0))) I A J) := by
  refine Con.of (by decide) (Nat.le_of_ble_eq_true rfl) (fun X hX9 hn9 F E => ?_)
  have z0 : ∀ n, (∀ k, k < n → A q k = 0) → valR (A q) n = 0 := fun n => by
    induction n with
    | zero => exact fun _ => rfl
    | succ n ih => intro h; simp only [valR]; rw [ih (fun k hk => h k (by omega)), h n (by omega), show (0 : Int32).toNatClampNeg = 0 from rfl, Nat.zero_mul]
  have loop : ∀ f k, k + f = nM q → (∀ j, j < k → A q j = 0) → WA X (mS I A J) plM 0 0 2 [(0, .ref q), (1, .int (nI k))] [] := by
    intro f
    induction f with
    | zero =>
      intro k hk2 hz
      obtain rfl : k = nM q := by omega
      have h : Int32.ofNat (nM q) ≤ nI (nM q) := (nI_leI (a := nM q) (b := nM q) (by omega) (by omega)).mpr (Nat.le_refl _)
      refine r_12_isZero_2 F E hq hk (fun _ => ?_) (fun z => absurd h z) (fun z => absurd h z) (fun z => absurd h z)
      rw [if_pos (z0 _ hz)]; exact ⟨rfl, rfl, rfl⟩
    | succ f ih =>
      intro k hk2 hz
      have h : ¬ Int32.ofNat (nM q) ≤ nI k := fun z => by have := (nI_leI (a := nM q) (b := k) (by omega) (by omega)).mp z; omega
      refine r_12_isZero_2 F E hq hk (fun z => absurd z h) (fun _ => vp_in_nI (by omega) (by omega)) (fun _ c => ?_) (fun _ c => ?_)
      · rw [nI_clamp (by omega)] at c
        rw [nI_1]
        refine ih (k + 1) (by omega) (fun j hj => ?_)
        rcases Nat.lt_or_ge j k with z | z
        · exact hz j z
        · obtain rfl : j = k := by omega
          exact c
      · rw [nI_clamp (by omega)] at c
        rw [if_neg (fun z => c (by rw [val_dg _ hd k (by omega), z, Nat.zero_div]; rfl))]; exact ⟨rfl, rfl, rfl⟩
  refine r_12_isZero_0 F hq hk ?_
  exact loop (nM q) 0 (by omega) (fun j hj => by omega)
