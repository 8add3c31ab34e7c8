/-! STANDS of the class: men from a point on, ranks -/
def mfN (s p : Nat) : Nat := sumB (dgt s) p (7 - p)
theorem mf_pip (s : Nat) : sumB (mfN s) 1 6 = pipS s := by
  simp only [sumB, mfN, pipS, pipF, Nat.reduceAdd, Nat.reduceSub]; omega
theorem mf_men (s : Nat) : mfN s 1 = menS s := rfl
theorem mf_s {s p : Nat} (h : p ≤ 6) : mfN s p = dgt s p + mfN s (p + 1) := by
  unfold mfN
  have := su_sh (f := dgt s) (7 - (p + 1)) p
  rw [show 7 - (p + 1) + 1 = 7 - p by omega] at this
  omega
theorem mf_7 (s : Nat) : mfN s 7 = 0 := rfl
theorem mf_le {s : Nat} (hs : stnd s) : ∀ p, 1 ≤ p → p ≤ 7 → mfN s p ≤ 15
  | 0, h, _ => by omega
  | 1, _, _ => hs.2
  | p + 2, _, h => by have := mf_le hs (p + 1) (by omega) (by omega); rw [mf_s (by omega)] at this; show mfN s (p + 1 + 1) ≤ 15; omega
theorem dg_lo {s p : Nat} (h : 0 < dgt s p) : 16 ^ (p - 1) ≤ s := by
  rcases Nat.lt_or_ge s (16 ^ (p - 1)) with c | c
  · unfold dgt at h; rw [Nat.div_eq_of_lt c] at h; exact absurd h (by decide)
  · exact c
theorem sh_4p : ∀ p, p < 7 → (((4 * nI p) &&& 31 : Int32).toBitVec.smod 32).toNat = 4 * p := by decide +kernel
theorem sh_6k : ∀ k, k < 7 → (((4 * (6 - nI k)) &&& 31 : Int32).toBitVec.smod 32).toNat = 4 * (6 - k) := by decide +kernel
theorem sr_4p {s p : Nat} (hs : s < 2 ^ 31) (hp : p ≤ 6) : nI s >>> ((4 * nI p) &&& 31) = nI (s / 16 ^ p) := by rw [pk_shrN hs _ (4 * p) (sh_4p p (by omega)), Nat.pow_mul]
def rN : Nat → Nat → Nat
  | 0 => fun _ => 1
  | k + 1 => fun m => sumB (fun j => rN k (j + 1)) 0 m
theorem rN_s (k m : Nat) : rN (k + 1) (m + 1) = rN (k + 1) m + rN k (m + 1) := by
  show sumB (fun j => rN k (j + 1)) 0 m + rN k (0 + m + 1) = _; rw [Nat.zero_add]; rfl
theorem rN_0 (k : Nat) : rN (k + 1) 0 = 0 := rfl
theorem rN_m : ∀ k m, rN k m ≤ rN k (m + 1)
  | 0, m => Nat.le_refl 1
  | k + 1, m => by rw [rN_s]; omega
theorem rN_mono {k a b : Nat} (h : a ≤ b) : rN k a ≤ rN k b := by
  obtain ⟨c, rfl⟩ : ∃ c, b = a + c := ⟨b - a, by omega⟩
  clear h
  induction c with
  | zero => exact Nat.le_refl _
  | succ c ih => exact Nat.le_trans ih (rN_m k (a + c))
def rkS (M : Nat → Nat) (k : Nat) : Nat := sumB (fun j => rN (j + 1) (M (j + 1))) 0 k
theorem rk_lt {M : Nat → Nat} : ∀ k, (∀ j, j < k → M j ≤ M (j + 1)) → rkS M k < rN k (M k + 1)
  | 0, _ => by show 0 < 1; decide
  | k + 1, h => by
    have ih := rk_lt k (fun j hj => h j (by omega))
    have h1 := rN_mono (k := k) (show M k + 1 ≤ M (k + 1) + 1 from Nat.succ_le_succ (h k (by omega)))
    show sumB _ 0 k + rN (0 + k + 1) (M (0 + k + 1)) < _
    rw [Nat.zero_add, rN_s]
    have : sumB (fun j => rN (j + 1) (M (j + 1))) 0 k < rN k (M k + 1) := ih
    omega
theorem rk_inj {M N : Nat → Nat} : ∀ k, (∀ j, j < k → M j ≤ M (j + 1)) → (∀ j, j < k → N j ≤ N (j + 1)) → rkS M k = rkS N k → ∀ j, 1 ≤ j → j ≤ k → M j = N j
  | 0, _, _, _ => fun j h1 h2 => by omega
  | k + 1, hM, hN, e => fun j h1 h2 => by
    have lM := rk_lt (k + 1) hM
    have lN' := rk_lt (k + 1) hN
    have eM : rkS M (k + 1) = rkS M k + rN (k + 1) (M (k + 1)) := by show _ + rN (0 + k + 1) (M (0 + k + 1)) = _; rw [Nat.zero_add]; rfl
    have eN : rkS N (k + 1) = rkS N k + rN (k + 1) (N (k + 1)) := by show _ + rN (0 + k + 1) (N (0 + k + 1)) = _; rw [Nat.zero_add]; rfl
    have etop : M (k + 1) = N (k + 1) := by
      rcases Nat.lt_trichotomy (M (k + 1)) (N (k + 1)) with c | c | c
      · have := rN_mono (k := k + 1) (show M (k + 1) + 1 ≤ N (k + 1) from c); omega
      · exact c
      · have := rN_mono (k := k + 1) (show N (k + 1) + 1 ≤ M (k + 1) from c); omega
    by_cases c : j = k + 1
    · rw [c]; exact etop
    · exact rk_inj k (fun j hj => hM j (by omega)) (fun j hj => hN j (by omega)) (by rw [eM, eN, etop] at e; omega) j h1 (by omega)
/-- men on the top k points -/
def mkN (s k : Nat) : Nat := mfN s (7 - k)
theorem mk_s {s k : Nat} (h : k < 6) : mkN s (k + 1) = mkN s k + dgt s (6 - k) := by
  unfold mkN; rw [show 7 - (k + 1) = 6 - k by omega, mf_s (by omega), show 6 - k + 1 = 7 - k by omega]; omega
def rkN (s : Nat) : Nat := rkS (mkN s) 6
theorem mk_mono (s : Nat) : ∀ j, j < 6 → mkN s j ≤ mkN s (j + 1) := fun j hj => by rw [mk_s hj]; omega
theorem rk_b {s : Nat} (hs : stnd s) : rkN s < 54264 := by
  have h := rk_lt 6 (mk_mono s)
  have h2 := rN_mono (k := 6) (show mkN s 6 + 1 ≤ 16 from by have : mkN s 6 = menS s := rfl; have := hs.2; omega)
  have e : rN 6 16 = 54264 := by decide +kernel
  have : rkS (mkN s) 6 = rkN s := rfl
  omega
theorem st_ext {s t : Nat} (hs : s < 16 ^ 6) (ht : t < 16 ^ 6) (h : ∀ p, 1 ≤ p → p ≤ 6 → dgt s p = dgt t p) : s = t := by
  have e1 := kd_st hs
  have e2 := kd_st ht
  rw [← e1, ← e2]
  have : ∀ n, n ≤ 6 → kd (dgF s) 0 n = kd (dgF t) 0 n := by
    intro n
    induction n with
    | zero => intro _; rfl
    | succ n ih =>
      intro hn
      have hd := h (1 + n) (by omega) (by omega)
      rw [dgt_f, dgt_f] at hd
      show kd (dgF s) 0 n + dgF s (0 + n) * 16 ^ n = kd (dgF t) 0 n + dgF t (0 + n) * 16 ^ n
      rw [ih (by omega), Nat.zero_add, hd]
  exact this 6 (Nat.le_refl _)
theorem mf_ext {s t : Nat} (hs : stnd s) (ht : stnd t) (h : ∀ p, 1 ≤ p → p ≤ 6 → mfN s p = mfN t p) : s = t := st_ext hs.1 ht.1 (fun p p1 p2 => by
  have a := h p p1 p2
  rw [mf_s p2, mf_s p2] at a
  rcases Nat.lt_or_ge p 6 with c | c
  · have b := h (p + 1) (by omega) (by omega); omega
  · obtain rfl : p = 6 := by omega
    rw [mf_7, mf_7] at a; omega)
theorem rk_eq {s t : Nat} (hs : stnd s) (ht : stnd t) (h : rkN s = rkN t) : s = t := mf_ext hs ht (fun p p1 p2 => by
  have := rk_inj 6 (mk_mono s) (mk_mono t) h (7 - p) (by omega) (by omega)
  unfold mkN at this; rw [show 7 - (7 - p) = p by omega] at this; exact this)
def rkT (R : Nat → Int32) : Prop := ∀ k, k ≤ 6 → ∀ m, m ≤ 15 → R (16 * k + m) = nI (rN k m)

theorem r_8_menFrom_0 {X : Ctx} (F : Fx X cX8_menFrom RX8 4 1 0 0) {P O : Nat → Nat → Option Nat} (hP : laP P) {I A : Nat → Nat → Int32} {J : Nat → Nat → Int64} {pl : List Nat} (hB : inB pl) {x0 x1 : Int32}
    (e_1 : WA X (mC P O I A J) pl 0 0 4 [(0, .int x0), (1, .int x1), (2, .int 0), (3, .int x1)] []) :
    WA X (mC P O I A J) pl 0 0 0 [(0, .int x0), (1, .int x1)] [] := by
  refine a_iconst (v := 0) F dX8_menFrom_0 (by decide) ?_
  refine a_istore_n F dX8_menFrom_1 rfl (by decide) rfl ?_
  refine a_iload_n F 2 dX8_menFrom_2 rfl rfl ?_
  refine a_istore_n F dX8_menFrom_3 rfl (by decide) rfl ?_
  refine a_sub [2, 3, 1, 0] rfl ?_
  exact e_1

theorem r_8_menFrom_4 {X : Ctx} (F : Fx X cX8_menFrom RX8 4 1 0 0) {Φ : Option Value → HS → List Nat → Prop} (E : Ex X (some .int) 0 0 Φ) {P O : Nat → Nat → Option Nat} (hP : laP P) {I A : Nat → Nat → Int32} {J : Nat → Nat → Int64} {pl : List Nat} (hB : inB pl) {x0 x1 x2 x3 : Int32}
    (e_1 : (6 < x3) → Φ (some (.int x2)) (mC P O I A J) pl)
    (e_2 : (¬ (6 < x3)) → WA X (mC P O I A J) pl 0 0 4 [(0, .int x0), (1, .int x1), (2, .int (x2 + ((x0 >>> ((4 * (x3 - 1)) &&& 31)) &&& 15))), (3, .int (x3 + 1))] []) :
    WA X (mC P O I A J) pl 0 0 4 [(0, .int x0), (1, .int x1), (2, .int x2), (3, .int x3)] [] := by
  refine a_iload_n F 3 dX8_menFrom_4 rfl rfl ?_
  refine a_bipush (v := 6) F dX8_menFrom_5 (by decide) ?_
  refine a_icmp_gt (tgt := 29) F dX8_menFrom_7 (by decide) (fun (c_1 : 6 < x3) => ?_) (fun (c_1 : ¬ (6 < x3)) => ?_)
  · refine a_iload_n F 2 dX8_menFrom_29 rfl rfl ?_
    exact a_iret F E dX8_menFrom_30 (Nat.le_refl 0) (Nat.le_refl 0) (e_1 c_1)
  · refine a_iload_n F 2 dX8_menFrom_10 rfl rfl ?_
    refine a_iload_n F 0 dX8_menFrom_11 rfl rfl ?_
    refine a_iconst (v := 4) F dX8_menFrom_12 (by decide) ?_
    refine a_iload_n F 3 dX8_menFrom_13 rfl rfl ?_
    refine a_iconst (v := 1) F dX8_menFrom_14 (by decide) ?_
    refine a_isub F dX8_menFrom_15 ?_
    refine a_imul F dX8_menFrom_16 ?_
    refine a_ishr F dX8_menFrom_17 ?_
    refine a_bipush (v := 15) F dX8_menFrom_18 (by decide) ?_
    refine a_iand F dX8_menFrom_20 ?_
    refine a_iadd F dX8_menFrom_21 ?_
    refine a_istore_n F dX8_menFrom_22 rfl (by decide) rfl ?_
    refine a_iinc (v := x3 + 1) F 3 dX8_menFrom_23 rfl rfl (by decide) rfl ?_
    refine a_goto (tgt := 4) F dX8_menFrom_26 (by decide) ?_
    refine a_sub [2, 3, 1, 0] rfl ?_
    exact e_2 c_1

set_option maxRecDepth 10000 in
theorem c_8_menFrom (l : Launch) {P O : Nat → Nat → Option Nat} (hP : laP P) (I A : Nat → Nat → Int32) (J : Nat → Nat → Int64) {pl : List Nat} (hB : inB pl) (s p : Nat) (hs : s < 2 ^ 31) (h1 : 1 ≤ p) (h2 : p ≤ 6) : Con l 1 yX8_menFrom cX8_menFrom 4 (some .int) [.int (nI s), .int (nI p)] (mC P O I A J) pl 0 0 (PC (some (.int (nI (mfN s p)))) P O I A J pl) := by
  refine Con.of (by decide) (Nat.le_of_ble_eq_true rfl) (fun X hX9 hn9 F E => ?_)
  have lp : ∀ f j, j + f = 7 - p → WA X (mC P O I A J) pl 0 0 4 [(0, .int (nI s)), (1, .int (nI p)), (2, .int (nI (sumB (dgt s) p j))), (3, .int (nI (p + j)))] [] := by
    intro f
    induction f with
    | zero =>
      intro j hj
      obtain rfl : j = 7 - p := by omega
      have h : (6 : Int32) < nI (p + (7 - p)) := (nI_gtn 6 (by omega) (by omega)).mpr (by omega)
      exact r_8_menFrom_4 F E hP hB (fun _ => ⟨rfl, rfl, rfl⟩) (fun z => absurd h z)
    | succ f ih =>
      intro j hj
      have h : ¬ (6 : Int32) < nI (p + j) := fun z => by have := (nI_gtn 6 (by omega) (by omega)).mp z; omega
      refine r_8_menFrom_4 F E hP hB (fun z => absurd z h) (fun _ => ?_)
      rw [on_n hs (by omega) (by omega), nI_add, nI_1]
      exact ih (j + 1) (by omega)
  exact r_8_menFrom_0 F hP hB (lp (7 - p) 0 (by omega))

theorem r_8_isStand_0 {X : Ctx} (F : Fx X cX8_isStand RX8 1 2 0 0) {Φ : Option Value → HS → List Nat → Prop} (E : Ex X (some .boolean) 0 0 Φ) {P O : Nat → Nat → Option Nat} (hP : laP P) {I A : Nat → Nat → Int32} {J : Nat → Nat → Int64} {pl : List Nat} (hB : inB pl) {x0 : Int32}
    (e_1 : (x0 < 0) → Φ (some (.int 0)) (mC P O I A J) pl)
    (e_2 : (¬ (x0 < 0)) → (¬ (x0 >>> (24 &&& 31)) = 0) → Φ (some (.int 0)) (mC P O I A J) pl)
    (e_3 : (¬ (x0 < 0)) → ((x0 >>> (24 &&& 31)) = 0) → WA X (mC P O I A J) pl 0 0 13 [(0, .int x0)] [.int 1, .int x0]) :
    WA X (mC P O I A J) pl 0 0 0 [(0, .int x0)] [] := by
  refine a_iload_n F 0 dX8_isStand_0 rfl rfl ?_
  refine a_if_lt (tgt := 25) F dX8_isStand_1 (by decide) (fun (c_1 : x0 < 0) => ?_) (fun (c_1 : ¬ (x0 < 0)) => ?_)
  · refine a_iconst (v := 0) F dX8_isStand_25 (by decide) ?_
    exact a_zret F E (by decide) dX8_isStand_26 (Nat.le_refl 0) (Nat.le_refl 0) (e_1 c_1)
  · refine a_iload_n F 0 dX8_isStand_4 rfl rfl ?_
    refine a_bipush (v := 24) F dX8_isStand_5 (by decide) ?_
    refine a_ishr F dX8_isStand_7 ?_
    refine a_if_ne (tgt := 25) F dX8_isStand_8 (by decide) (fun (c_2 : ¬ (x0 >>> (24 &&& 31)) = 0) => ?_) (fun (c_2 : (x0 >>> (24 &&& 31)) = 0) => ?_)
    · refine a_iconst (v := 0) F dX8_isStand_25 (by decide) ?_
      exact a_zret F E (by decide) dX8_isStand_26 (Nat.le_refl 0) (Nat.le_refl 0) (e_2 c_1 c_2)
    · refine a_iload_n F 0 dX8_isStand_11 rfl rfl ?_
      refine a_iconst (v := 1) F dX8_isStand_12 (by decide) ?_
      exact e_3 c_1 c_2

theorem r_8_isStand_16 {X : Ctx} (F : Fx X cX8_isStand RX8 1 2 0 0) {Φ : Option Value → HS → List Nat → Prop} (E : Ex X (some .boolean) 0 0 Φ) {P O : Nat → Nat → Option Nat} (hP : laP P) {I A : Nat → Nat → Int32} {J : Nat → Nat → Int64} {pl : List Nat} (hB : inB pl) {x0 b1 : Int32}
    (e_1 : (15 < b1) → Φ (some (.int 0)) (mC P O I A J) pl)
    (e_2 : (¬ (15 < b1)) → Φ (some (.int 1)) (mC P O I A J) pl) :
    WA X (mC P O I A J) pl 0 0 16 [(0, .int x0)] [.int b1] := by
  refine a_bipush (v := 15) F dX8_isStand_16 (by decide) ?_
  refine a_icmp_gt (tgt := 25) F dX8_isStand_18 (by decide) (fun (c_3 : 15 < b1) => ?_) (fun (c_3 : ¬ (15 < b1)) => ?_)
  · refine a_iconst (v := 0) F dX8_isStand_25 (by decide) ?_
    exact a_zret F E (by decide) dX8_isStand_26 (Nat.le_refl 0) (Nat.le_refl 0) (e_1 c_3)
  · refine a_iconst (v := 1) F dX8_isStand_21 (by decide) ?_
    refine a_goto (tgt := 26) F dX8_isStand_22 (by decide) ?_
    exact a_zret F E (by decide) dX8_isStand_26 (Nat.le_refl 0) (Nat.le_refl 0) (e_2 c_3)

set_option maxRecDepth 10000 in
theorem c_8_isStand (l : Launch) {P O : Nat → Nat → Option Nat} (hP : laP P) (I A : Nat → Nat → Int32) (J : Nat → Nat → Int64) {pl : List Nat} (hB : inB pl) (x : Int32) : Con l 2 yX8_isStand cX8_isStand 1 (some .boolean) [.int x] (mC P O I A J) pl 0 0 (PC (some (.int (@ite Int32 (stdI x) (Classical.propDecidable _) 1 0))) P O I A J pl) := by
  refine Con.of (by decide) (Nat.le_of_ble_eq_true rfl) (fun X hX9 hn9 F E => ?_)
  have no : ¬ stdI x → PC (some (.int (@ite Int32 (stdI x) (Classical.propDecidable _) 1 0))) P O I A J pl (some (.int 0)) (mC P O I A J) pl := fun z => ⟨by rw [if_neg z], rfl, rfl⟩
  have yes : stdI x → PC (some (.int (@ite Int32 (stdI x) (Classical.propDecidable _) 1 0))) P O I A J pl (some (.int 1)) (mC P O I A J) pl := fun z => ⟨by rw [if_pos z], rfl, rfl⟩
  by_cases c : x < 0
  · exact r_8_isStand_0 F E hP hB (fun _ => no (fun z => absurd z.1 (Int32.not_le.mpr c))) (fun z => absurd c z) (fun z => absurd c z)
  obtain ⟨s, hs, rfl⟩ := nI_of2 (x := x) (M := 2147483647) (n := 2147483647) rfl c (Int32.le_maxValue x)
  have hs2 : s < 2 ^ 31 := by omega
  have sh : nI s >>> ((24 : Int32) &&& 31) = nI (s / 2 ^ 24) := pk_shrN hs2 _ 24 (by decide +kernel)
  have z24 : nI s >>> ((24 : Int32) &&& 31) = 0 ↔ s < 16 ^ 6 := by
    rw [sh, nI_z (by omega)]; exact ⟨fun z => by omega, fun z => by omega⟩
  have sd := std_n hs2
  refine r_8_isStand_0 F E hP hB (fun z => absurd z c) (fun _ z => no (fun y => z (z24.mpr (sd.mp y).1))) (fun _ z => ?_)
  have h6 := z24.mp z
  refine a_callS (As := [.int (nI s), .int 1]) (st := []) F (c_8_menFrom (xl X) hP I A J hB s 1 hs2 (by omega) (by omega)) ml_8_51 sm_yX8_menFrom (by decide) rfl dX8_isStand_13 (by decide) (Nat.le_refl 0) (Nat.le_refl 0) (hl_i hl_nil) hs_nil ?_
  rintro _ _ _ ⟨rfl, rfl, rfl⟩ _
  have mb : mfN s 1 ≤ 90 := by
    have := su_bd (f := dgt s) (o := 1) (c := 15) 6 (fun k _ => by have := dgt_lt s (1 + k); omega)
    have : mfN s 1 = sumB (dgt s) 1 6 := rfl
    omega
  have h15 : (15 : Int32) < nI (mfN s 1) ↔ 15 < mfN s 1 := nI_gtn 15 (by omega) (by omega)
  refine r_8_isStand_16 F E hP hB (fun y => no (fun w => ?_)) (fun y => yes (sd.mpr ⟨h6, ?_⟩))
  · have := (sd.mp w).2; have := h15.mp y; rw [mf_men] at this; omega
  · have := (not_congr h15).mp y; rw [mf_men] at this; omega

theorem r_8_pips_0 {X : Ctx} (F : Fx X cX8_pips RX8 3 2 0 0) {P O : Nat → Nat → Option Nat} (hP : laP P) {I A : Nat → Nat → Int32} {J : Nat → Nat → Int64} {pl : List Nat} (hB : inB pl) {x0 : Int32}
    (e_1 : WA X (mC P O I A J) pl 0 0 4 [(0, .int x0), (1, .int 0), (2, .int 1)] []) :
    WA X (mC P O I A J) pl 0 0 0 [(0, .int x0)] [] := by
  refine a_iconst (v := 0) F dX8_pips_0 (by decide) ?_
  refine a_istore_n F dX8_pips_1 rfl (by decide) rfl ?_
  refine a_iconst (v := 1) F dX8_pips_2 (by decide) ?_
  refine a_istore_n F dX8_pips_3 rfl (by decide) rfl ?_
  refine a_sub [2, 1, 0] rfl ?_
  exact e_1

theorem r_8_pips_4 {X : Ctx} (F : Fx X cX8_pips RX8 3 2 0 0) {Φ : Option Value → HS → List Nat → Prop} (E : Ex X (some .int) 0 0 Φ) {P O : Nat → Nat → Option Nat} (hP : laP P) {I A : Nat → Nat → Int32} {J : Nat → Nat → Int64} {pl : List Nat} (hB : inB pl) {x0 x1 x2 : Int32}
    (e_1 : (6 < x2) → Φ (some (.int x1)) (mC P O I A J) pl)
    (e_2 : (¬ (6 < x2)) → WA X (mC P O I A J) pl 0 0 13 [(0, .int x0), (1, .int x1), (2, .int x2)] [.int x2, .int x0, .int x1]) :
    WA X (mC P O I A J) pl 0 0 4 [(0, .int x0), (1, .int x1), (2, .int x2)] [] := by
  refine a_iload_n F 2 dX8_pips_4 rfl rfl ?_
  refine a_bipush (v := 6) F dX8_pips_5 (by decide) ?_
  refine a_icmp_gt (tgt := 24) F dX8_pips_7 (by decide) (fun (c_1 : 6 < x2) => ?_) (fun (c_1 : ¬ (6 < x2)) => ?_)
  · refine a_iload_n F 1 dX8_pips_24 rfl rfl ?_
    exact a_iret F E dX8_pips_25 (Nat.le_refl 0) (Nat.le_refl 0) (e_1 c_1)
  · refine a_iload_n F 1 dX8_pips_10 rfl rfl ?_
    refine a_iload_n F 0 dX8_pips_11 rfl rfl ?_
    refine a_iload_n F 2 dX8_pips_12 rfl rfl ?_
    exact e_2 c_1

theorem r_8_pips_16 {X : Ctx} (F : Fx X cX8_pips RX8 3 2 0 0) {P O : Nat → Nat → Option Nat} (hP : laP P) {I A : Nat → Nat → Int32} {J : Nat → Nat → Int64} {pl : List Nat} (hB : inB pl) {x0 x1 x2 b1 x9 : Int32}
    (e_1 : WA X (mC P O I A J) pl 0 0 4 [(0, .int x0), (1, .int (x9 + b1)), (2, .int (x2 + 1))] []) :
    WA X (mC P O I A J) pl 0 0 16 [(0, .int x0), (1, .int x1), (2, .int x2)] [.int b1, .int x9] := by
  refine a_iadd F dX8_pips_16 ?_
  refine a_istore_n F dX8_pips_17 rfl (by decide) rfl ?_
  refine a_iinc (v := x2 + 1) F 2 dX8_pips_18 rfl rfl (by decide) rfl ?_
  refine a_goto (tgt := 4) F dX8_pips_21 (by decide) ?_
  refine a_sub [2, 1, 0] rfl ?_
  exact e_1

set_option maxRecDepth 10000 in
theorem c_8_pips (l : Launch) {P O : Nat → Nat → Option Nat} (hP : laP P) (I A : Nat → Nat → Int32) (J : Nat → Nat → Int64) {pl : List Nat} (hB : inB pl) (s : Nat) (hs : s < 2 ^ 31) : Con l 2 yX8_pips cX8_pips 3 (some .int) [.int (nI s)] (mC P O I A J) pl 0 0 (PC (some (.int (nI (pipS s)))) P O I A J pl) := by
  refine Con.of (by decide) (Nat.le_of_ble_eq_true rfl) (fun X hX9 hn9 F E => ?_)
  have lp : ∀ f j, j + f = 6 → WA X (mC P O I A J) pl 0 0 4 [(0, .int (nI s)), (1, .int (nI (sumB (mfN s) 1 j))), (2, .int (nI (1 + j)))] [] := by
    intro f
    induction f with
    | zero =>
      intro j hj
      obtain rfl : j = 6 := by omega
      refine r_8_pips_4 F E hP hB (fun _ => ?_) (fun z => absurd (by decide) z)
      rw [mf_pip]; exact ⟨rfl, rfl, rfl⟩
    | succ f ih =>
      intro j hj
      have h : ¬ (6 : Int32) < nI (1 + j) := fun z => by have := (nI_gtn 6 (by omega) (by omega)).mp z; omega
      refine r_8_pips_4 F E hP hB (fun z => absurd z h) (fun _ => ?_)
      refine a_callS (As := [.int (nI s), .int (nI (1 + j))]) (st := [.int (nI (sumB (mfN s) 1 j))]) F (c_8_menFrom (xl X) hP I A J hB s (1 + j) hs (by omega) (by omega)) ml_8_51 sm_yX8_menFrom (by decide) rfl dX8_pips_13 (Nat.le_of_ble_eq_true rfl) (Nat.le_refl 0) (Nat.le_refl 0) (hl_i (hl_i (hl_i hl_nil))) (hs_i hs_nil) ?_
      rintro _ _ _ ⟨rfl, rfl, rfl⟩ _
      refine r_8_pips_16 F hP hB ?_
      rw [nI_add, nI_1]
      exact ih (j + 1) (by omega)
  exact r_8_pips_0 F hP hB (lp 6 0 rfl)

theorem r_8_canBear_0 {X : Ctx} (F : Fx X cX8_canBear RX8 3 1 0 0) {Φ : Option Value → HS → List Nat → Prop} (E : Ex X (some .boolean) 0 0 Φ) {P O : Nat → Nat → Option Nat} (hP : laP P) {I A : Nat → Nat → Int32} {J : Nat → Nat → Int64} {pl : List Nat} (hB : inB pl) {x0 x1 x2 : Int32}
    (e_1 : (((x0 >>> ((4 * (x1 - 1)) &&& 31)) &&& 15) ≤ 0) → Φ (some (.int 0)) (mC P O I A J) pl)
    (e_2 : (¬ (((x0 >>> ((4 * (x1 - 1)) &&& 31)) &&& 15) ≤ 0)) → (x2 ≤ x1) → Φ (some (.int 1)) (mC P O I A J) pl)
    (e_3 : (¬ (((x0 >>> ((4 * (x1 - 1)) &&& 31)) &&& 15) ≤ 0)) → (¬ (x2 ≤ x1)) → (¬ (x0 >>> ((4 * x1) &&& 31)) = 0) → Φ (some (.int 0)) (mC P O I A J) pl)
    (e_4 : (¬ (((x0 >>> ((4 * (x1 - 1)) &&& 31)) &&& 15) ≤ 0)) → (¬ (x2 ≤ x1)) → ((x0 >>> ((4 * x1) &&& 31)) = 0) → Φ (some (.int 1)) (mC P O I A J) pl) :
    WA X (mC P O I A J) pl 0 0 0 [(0, .int x0), (1, .int x1), (2, .int x2)] [] := by
  refine a_iload_n F 0 dX8_canBear_0 rfl rfl ?_
  refine a_iconst (v := 4) F dX8_canBear_1 (by decide) ?_
  refine a_iload_n F 1 dX8_canBear_2 rfl rfl ?_
  refine a_iconst (v := 1) F dX8_canBear_3 (by decide) ?_
  refine a_isub F dX8_canBear_4 ?_
  refine a_imul F dX8_canBear_5 ?_
  refine a_ishr F dX8_canBear_6 ?_
  refine a_bipush (v := 15) F dX8_canBear_7 (by decide) ?_
  refine a_iand F dX8_canBear_9 ?_
  refine a_if_le (tgt := 30) F dX8_canBear_10 (by decide) (fun (c_1 : ((x0 >>> ((4 * (x1 - 1)) &&& 31)) &&& 15) ≤ 0) => ?_) (fun (c_1 : ¬ (((x0 >>> ((4 * (x1 - 1)) &&& 31)) &&& 15) ≤ 0)) => ?_)
  · refine a_iconst (v := 0) F dX8_canBear_30 (by decide) ?_
    exact a_zret F E (by decide) dX8_canBear_31 (Nat.le_refl 0) (Nat.le_refl 0) (e_1 c_1)
  · refine a_iload_n F 1 dX8_canBear_13 rfl rfl ?_
    refine a_iload_n F 2 dX8_canBear_14 rfl rfl ?_
    refine a_icmp_ge (tgt := 26) F dX8_canBear_15 (by decide) (fun (c_2 : x2 ≤ x1) => ?_) (fun (c_2 : ¬ (x2 ≤ x1)) => ?_)
    · refine a_iconst (v := 1) F dX8_canBear_26 (by decide) ?_
      refine a_goto (tgt := 31) F dX8_canBear_27 (by decide) ?_
      exact a_zret F E (by decide) dX8_canBear_31 (Nat.le_refl 0) (Nat.le_refl 0) (e_2 c_1 c_2)
    · refine a_iload_n F 0 dX8_canBear_18 rfl rfl ?_
      refine a_iconst (v := 4) F dX8_canBear_19 (by decide) ?_
      refine a_iload_n F 1 dX8_canBear_20 rfl rfl ?_
      refine a_imul F dX8_canBear_21 ?_
      refine a_ishr F dX8_canBear_22 ?_
      refine a_if_ne (tgt := 30) F dX8_canBear_23 (by decide) (fun (c_3 : ¬ (x0 >>> ((4 * x1) &&& 31)) = 0) => ?_) (fun (c_3 : (x0 >>> ((4 * x1) &&& 31)) = 0) => ?_)
      · refine a_iconst (v := 0) F dX8_canBear_30 (by decide) ?_
        exact a_zret F E (by decide) dX8_canBear_31 (Nat.le_refl 0) (Nat.le_refl 0) (e_3 c_1 c_2 c_3)
      · refine a_iconst (v := 1) F dX8_canBear_26 (by decide) ?_
        refine a_goto (tgt := 31) F dX8_canBear_27 (by decide) ?_
        exact a_zret F E (by decide) dX8_canBear_31 (Nat.le_refl 0) (Nat.le_refl 0) (e_4 c_1 c_2 c_3)

set_option maxRecDepth 10000 in
theorem c_8_canBear (l : Launch) {P O : Nat → Nat → Option Nat} (hP : laP P) (I A : Nat → Nat → Int32) (J : Nat → Nat → Int64) {pl : List Nat} (hB : inB pl) (s p d : Nat) (hs : s < 2 ^ 31) (h1 : 1 ≤ p) (h2 : p ≤ 6) (hd : d ≤ 6) : Con l 1 yX8_canBear cX8_canBear 3 (some .boolean) [.int (nI s), .int (nI p), .int (nI d)] (mC P O I A J) pl 0 0 (PC (some (.int (@ite Int32 (lgl s p d) (Classical.propDecidable _) 1 0))) P O I A J pl) := by
  refine Con.of (by decide) (Nat.le_of_ble_eq_true rfl) (fun X hX9 hn9 F E => ?_)
  have no : ¬ lgl s p d → PC (some (.int (@ite Int32 (lgl s p d) (Classical.propDecidable _) 1 0))) P O I A J pl (some (.int 0)) (mC P O I A J) pl := fun z => ⟨by rw [if_neg z], rfl, rfl⟩
  have yes : lgl s p d → PC (some (.int (@ite Int32 (lgl s p d) (Classical.propDecidable _) 1 0))) P O I A J pl (some (.int 1)) (mC P O I A J) pl := fun z => ⟨by rw [if_pos z], rfl, rfl⟩
  have hdl := dgt_lt s p
  have c0 : (nI s >>> ((4 * (nI p - 1)) &&& 31)) &&& 15 ≤ 0 ↔ dgt s p = 0 := by rw [on_n hs h1 h2]; exact nI_le0 (by omega)
  have c1 : nI d ≤ nI p ↔ d ≤ p := nI_leI (by omega) (by omega)
  have hdv : s / 16 ^ p ≤ s := Nat.div_le_self _ _
  have c2 : nI s >>> ((4 * nI p) &&& 31) = 0 ↔ s / 16 ^ p = 0 := by rw [sr_4p hs h2]; exact nI_z (by omega)
  have pos : ¬ (nI s >>> ((4 * (nI p - 1)) &&& 31)) &&& 15 ≤ 0 → 0 < dgt s p := fun z => by have := (not_congr c0).mp z; omega
  exact r_8_canBear_0 F E hP hB (fun z => no (fun y => by have := c0.mp z; have := y.2.2.1; omega)) (fun z y => yes ⟨h1, h2, pos z, Or.inl (c1.mp y)⟩) (fun z y w => no (fun u => u.2.2.2.elim (fun v => y (c1.mpr v)) (fun v => w (c2.mpr v)))) (fun z y w => yes ⟨h1, h2, pos z, Or.inr (c2.mp w)⟩)

theorem r_8_bear_0 {X : Ctx} (F : Fx X cX8_bear RX8 4 1 0 0) {Φ : Option Value → HS → List Nat → Prop} (E : Ex X (some .int) 0 0 Φ) {P O : Nat → Nat → Option Nat} (hP : laP P) {I A : Nat → Nat → Int32} {J : Nat → Nat → Int64} {pl : List Nat} (hB : inB pl) {x0 x1 x2 : Int32}
    (e_1 : (x1 ≤ x2) → Φ (some (.int (x0 - (1 <<< ((4 * (x1 - 1)) &&& 31))))) (mC P O I A J) pl)
    (e_2 : (¬ (x1 ≤ x2)) → Φ (some (.int ((x0 - (1 <<< ((4 * (x1 - 1)) &&& 31))) + (1 <<< ((4 * ((x1 - x2) - 1)) &&& 31))))) (mC P O I A J) pl) :
    WA X (mC P O I A J) pl 0 0 0 [(0, .int x0), (1, .int x1), (2, .int x2)] [] := by
  refine a_iload_n F 0 dX8_bear_0 rfl rfl ?_
  refine a_iconst (v := 1) F dX8_bear_1 (by decide) ?_
  refine a_iconst (v := 4) F dX8_bear_2 (by decide) ?_
  refine a_iload_n F 1 dX8_bear_3 rfl rfl ?_
  refine a_iconst (v := 1) F dX8_bear_4 (by decide) ?_
  refine a_isub F dX8_bear_5 ?_
  refine a_imul F dX8_bear_6 ?_
  refine a_ishl F dX8_bear_7 ?_
  refine a_isub F dX8_bear_8 ?_
  refine a_istore_n F dX8_bear_9 rfl (by decide) rfl ?_
  refine a_iload_n F 2 dX8_bear_10 rfl rfl ?_
  refine a_iload_n F 3 dX8_bear_11 rfl rfl ?_
  refine a_icmp_le (tgt := 29) F dX8_bear_12 (by decide) (fun (c_1 : x1 ≤ x2) => ?_) (fun (c_1 : ¬ (x1 ≤ x2)) => ?_)
  · refine a_iload_n F 0 dX8_bear_29 rfl rfl ?_
    exact a_iret F E dX8_bear_30 (Nat.le_refl 0) (Nat.le_refl 0) (e_1 c_1)
  · refine a_iload_n F 0 dX8_bear_15 rfl rfl ?_
    refine a_iconst (v := 1) F dX8_bear_16 (by decide) ?_
    refine a_iconst (v := 4) F dX8_bear_17 (by decide) ?_
    refine a_iload_n F 2 dX8_bear_18 rfl rfl ?_
    refine a_iload_n F 3 dX8_bear_19 rfl rfl ?_
    refine a_isub F dX8_bear_20 ?_
    refine a_iconst (v := 1) F dX8_bear_21 (by decide) ?_
    refine a_isub F dX8_bear_22 ?_
    refine a_imul F dX8_bear_23 ?_
    refine a_ishl F dX8_bear_24 ?_
    refine a_iadd F dX8_bear_25 ?_
    refine a_goto (tgt := 30) F dX8_bear_26 (by decide) ?_
    exact a_iret F E dX8_bear_30 (Nat.le_refl 0) (Nat.le_refl 0) (e_2 c_1)

set_option maxRecDepth 10000 in
theorem c_8_bear (l : Launch) {P O : Nat → Nat → Option Nat} (hP : laP P) (I A : Nat → Nat → Int32) (J : Nat → Nat → Int64) {pl : List Nat} (hB : inB pl) (s p d : Nat) (hs : s < 2 ^ 31) (hd : d ≤ 6) (h : lgl s p d) : Con l 1 yX8_bear cX8_bear 4 (some .int) [.int (nI s), .int (nI p), .int (nI d)] (mC P O I A J) pl 0 0 (PC (some (.int (nI (mvN s p d)))) P O I A J pl) := by
  refine Con.of (by decide) (Nat.le_of_ble_eq_true rfl) (fun X hX9 hn9 F E => ?_)
  obtain ⟨h1, h2, h3, -⟩ := h
  have lo := dg_lo h3
  have e1 : (1 : Int32) <<< ((4 * (nI p - 1)) &&& 31) = nI (16 ^ (p - 1)) := by
    have := sh16 (p - 1) (by omega); rw [show p - 1 + 1 = p by omega] at this; exact this
  have c1 : nI p ≤ nI d ↔ p ≤ d := nI_leI (by omega) (by omega)
  refine r_8_bear_0 F E hP hB (fun z => ?_) (fun z => ?_)
  · rw [e1, pk_sub lo]; unfold mvN; rw [if_neg (by have := c1.mp z; omega)]; exact ⟨rfl, rfl, rfl⟩
  · have hlt : d < p := Nat.lt_of_not_le (fun y => z (c1.mpr y))
    have e2 : (1 : Int32) <<< ((4 * ((nI p - nI d) - 1)) &&& 31) = nI (16 ^ (p - d - 1)) := by
      rw [pk_sub (by omega)]
      have := sh16 (p - d - 1) (by omega); rw [show p - d - 1 + 1 = p - d by omega] at this; exact this
    rw [e1, e2, pk_sub lo, nI_add]; unfold mvN; rw [if_pos hlt]; exact ⟨rfl, rfl, rfl⟩

theorem r_8_cellOf_0 {X : Ctx} (F : Fx X cX8_cellOf RX8 1 1 0 0) {Φ : Option Value → HS → List Nat → Prop} (E : Ex X (some .int) 0 0 Φ) {P O : Nat → Nat → Option Nat} (hP : laP P) {I A : Nat → Nat → Int32} {J : Nat → Nat → Int64} {pl : List Nat} (hB : inB pl) {x0 : Int32}
    (e_1 : Φ (some (.int ((x0 - x0 / 64 * 64) * 18))) (mC P O I A J) pl) :
    WA X (mC P O I A J) pl 0 0 0 [(0, .int x0)] [] := by
  refine a_iload_n F 0 dX8_cellOf_0 rfl rfl ?_
  refine a_bipush (v := 64) F dX8_cellOf_1 (by decide) ?_
  refine a_irem F dX8_cellOf_3 (by decide) ?_
  refine a_bipush (v := 18) F dX8_cellOf_4 (by decide) ?_
  refine a_imul F dX8_cellOf_6 ?_
  exact a_iret F E dX8_cellOf_7 (Nat.le_refl 0) (Nat.le_refl 0) (e_1)

set_option maxRecDepth 10000 in
theorem c_8_cellOf (l : Launch) {P O : Nat → Nat → Option Nat} (hP : laP P) (I A : Nat → Nat → Int32) (J : Nat → Nat → Int64) {pl : List Nat} (hB : inB pl) (r : Nat) (hr : r < 2 ^ 31) : Con l 1 yX8_cellOf cX8_cellOf 1 (some .int) [.int (nI r)] (mC P O I A J) pl 0 0 (PC (some (.int (nI (18 * (r % 64))))) P O I A J pl) := by
  refine Con.of (by decide) (Nat.le_of_ble_eq_true rfl) (fun X hX9 hn9 F E => ?_)
  refine r_8_cellOf_0 F E hP hB ?_
  rw [show nI r - nI r / 64 * 64 = nI (r % 64) from pk_rem (d := 64) hr (by decide) (by decide), show nI (r % 64) * 18 = nI (r % 64 * 18) from pk_mul _ 18, Nat.mul_comm]
  exact ⟨rfl, rfl, rfl⟩

theorem r_8_rankOf_0 {X : Ctx} (F : Fx X cX8_rankOf RX8 5 1 0 0) {P O : Nat → Nat → Option Nat} (hP : laP P) {I A : Nat → Nat → Int32} {J : Nat → Nat → Int64} {pl : List Nat} (hB : inB pl) {x1 : Int32}
    (e_1 : WA X (mC P O I A J) pl 0 0 7 [(0, .ref 116), (1, .int x1), (2, .int 0), (3, .int 0), (4, .int 1)] []) :
    WA X (mC P O I A J) pl 0 0 0 [(0, .ref 116), (1, .int x1)] [] := by
  refine a_iconst (v := 0) F dX8_rankOf_0 (by decide) ?_
  refine a_istore_n F dX8_rankOf_1 rfl (by decide) rfl ?_
  refine a_iconst (v := 0) F dX8_rankOf_2 (by decide) ?_
  refine a_istore_n F dX8_rankOf_3 rfl (by decide) rfl ?_
  refine a_iconst (v := 1) F dX8_rankOf_4 (by decide) ?_
  refine a_istore F dX8_rankOf_5 (by decide) rfl ?_
  refine a_sub [3, 4, 2, 1, 0] rfl ?_
  exact e_1

theorem r_8_rankOf_7 {X : Ctx} (F : Fx X cX8_rankOf RX8 5 1 0 0) {Φ : Option Value → HS → List Nat → Prop} (E : Ex X (some .int) 0 0 Φ) {P O : Nat → Nat → Option Nat} (hP : laP P) {I A : Nat → Nat → Int32} {J : Nat → Nat → Int64} {pl : List Nat} (hB : inB pl) {x1 x2 x3 x4 : Int32}
    (e_1 : (6 < x4) → Φ (some (.int x3)) (mC P O I A J) pl)
    (o_2 : (¬ (6 < x4)) → vp_in ((16 * x4) + ((x2 + ((x1 >>> ((4 * (6 - x4)) &&& 31)) &&& 15)) &&& 15)) 112)
    (e_3 : (¬ (6 < x4)) → WA X (mC P O I A J) pl 0 0 7 [(0, .ref 116), (1, .int x1), (2, .int (x2 + ((x1 >>> ((4 * (6 - x4)) &&& 31)) &&& 15))), (3, .int (x3 + (A 118 ((16 * x4) + ((x2 + ((x1 >>> ((4 * (6 - x4)) &&& 31)) &&& 15)) &&& 15)).toNatClampNeg))), (4, .int (x4 + 1))] []) :
    WA X (mC P O I A J) pl 0 0 7 [(0, .ref 116), (1, .int x1), (2, .int x2), (3, .int x3), (4, .int x4)] [] := by
  refine a_iload F 4 dX8_rankOf_7 rfl ?_
  refine a_bipush (v := 6) F dX8_rankOf_9 (by decide) ?_
  refine a_icmp_gt (tgt := 53) F dX8_rankOf_11 (by decide) (fun (c_1 : 6 < x4) => ?_) (fun (c_1 : ¬ (6 < x4)) => ?_)
  · refine a_iload_n F 3 dX8_rankOf_53 rfl rfl ?_
    exact a_iret F E dX8_rankOf_54 (Nat.le_refl 0) (Nat.le_refl 0) (e_1 c_1)
  · refine a_iload_n F 2 dX8_rankOf_14 rfl rfl ?_
    refine a_iload_n F 1 dX8_rankOf_15 rfl rfl ?_
    refine a_iconst (v := 4) F dX8_rankOf_16 (by decide) ?_
    refine a_bipush (v := 6) F dX8_rankOf_17 (by decide) ?_
    refine a_iload F 4 dX8_rankOf_19 rfl ?_
    refine a_isub F dX8_rankOf_21 ?_
    refine a_imul F dX8_rankOf_22 ?_
    refine a_ishr F dX8_rankOf_23 ?_
    refine a_bipush (v := 15) F dX8_rankOf_24 (by decide) ?_
    refine a_iand F dX8_rankOf_26 ?_
    refine a_iadd F dX8_rankOf_27 ?_
    refine a_istore_n F dX8_rankOf_28 rfl (by decide) rfl ?_
    refine a_iload_n F 3 dX8_rankOf_29 rfl rfl ?_
    refine a_aload_n F 1 dX8_rankOf_30 rfl rfl ?_
    refine a_getr (b := 118) F fl_8_17 rfl (hB _ (by decide)) rfl ((hP 116 1 (by decide)).trans rfl) dX8_rankOf_31 ?_
    refine a_bipush (v := 16) F dX8_rankOf_34 (by decide) ?_
    refine a_iload F 4 dX8_rankOf_36 rfl ?_
    refine a_imul F dX8_rankOf_38 ?_
    refine a_iload_n F 0 dX8_rankOf_39 rfl rfl ?_
    refine a_bipush (v := 15) F dX8_rankOf_40 (by decide) ?_
    refine a_iand F dX8_rankOf_42 ?_
    refine a_iadd F dX8_rankOf_43 ?_
    refine a_iald F (hB _ (by decide)) rfl (o_2 c_1) dX8_rankOf_44 ?_
    refine a_iadd F dX8_rankOf_45 ?_
    refine a_istore_n F dX8_rankOf_46 rfl (by decide) rfl ?_
    refine a_iinc (v := x4 + 1) F 4 dX8_rankOf_47 rfl rfl (by decide) rfl ?_
    refine a_goto (tgt := 7) F dX8_rankOf_50 (by decide) ?_
    refine a_sub [3, 4, 2, 1, 0] rfl ?_
    exact e_3 c_1

set_option maxRecDepth 100000 in
theorem c_8_rankOf (l : Launch) {P O : Nat → Nat → Option Nat} (hP : laP P) (I A : Nat → Nat → Int32) (J : Nat → Nat → Int64) {pl : List Nat} (hB : inB pl) (s : Nat) (hs : stnd s) (ht : rkT (A 118)) : Con l 1 yX8_rankOf cX8_rankOf 5 (some .int) [.ref 116, .int (nI s)] (mC P O I A J) pl 0 0 (PC (some (.int (nI (rkN s)))) P O I A J pl) := by
  refine Con.of (by decide) (Nat.le_of_ble_eq_true rfl) (fun X hX9 hn9 F E => ?_)
  have hs2 : s < 2 ^ 31 := by have := hs.1; omega
  have lp : ∀ f k, k + f = 6 → WA X (mC P O I A J) pl 0 0 7 [(0, .ref 116), (1, .int (nI s)), (2, .int (nI (mkN s k))), (3, .int (nI (rkS (mkN s) k))), (4, .int (nI (k + 1)))] [] := by
    intro f
    induction f with
    | zero =>
      intro k hk
      obtain rfl : k = 6 := by omega
      exact r_8_rankOf_7 F E hP hB (fun _ => ⟨rfl, rfl, rfl⟩) (fun z => absurd (by decide) z) (fun z => absurd (by decide) z)
    | succ f ih =>
      intro k hk
      have h : ¬ (6 : Int32) < nI (k + 1) := fun z => by have := (nI_gtn 6 (by omega) (by omega)).mp z; omega
      have ed : (nI s >>> ((4 * (6 - nI (k + 1))) &&& 31)) &&& 15 = nI (dgt s (6 - k)) := by
        rw [pk_shrN hs2 _ (4 * (6 - (k + 1))) (sh_6k (k + 1) (by omega)), pk_andN (Nat.lt_of_le_of_lt (Nat.div_le_self _ _) (by omega)) 4 (by decide)]
        unfold dgt; rw [Nat.pow_mul, show 6 - k - 1 = 6 - (k + 1) by omega]
      have em : nI (mkN s k) + nI (dgt s (6 - k)) = nI (mkN s (k + 1)) := by rw [nI_add, mk_s (by omega)]
      have m15 : mkN s (k + 1) ≤ 15 := mf_le hs _ (by omega) (by omega)
      have ei : 16 * nI (k + 1) + (nI (mkN s (k + 1)) &&& 15) = nI (16 * (k + 1) + mkN s (k + 1)) := by
        rw [i_15, Nat.mod_eq_of_lt (by omega), lit 16, pk_mul, nI_add]
      refine r_8_rankOf_7 F E hP hB (fun z => absurd z h) (fun _ => ?_) (fun _ => ?_)
      · rw [ed, em, ei]; exact vp_in_nI (by omega) (by omega)
      · rw [ed, em, ei, nI_clamp (by omega), ht (k + 1) (by omega) _ m15, nI_add, nI_1]
        have e9 : rkS (mkN s) (k + 1) = rkS (mkN s) k + rN (k + 1) (mkN s (k + 1)) := by show _ + rN (0 + k + 1) (mkN s (0 + k + 1)) = _; rw [Nat.zero_add]; rfl
        have := ih (k + 1) (by omega)
        rw [e9] at this
        exact this
  exact r_8_rankOf_0 F hP hB (lp 6 0 rfl)
