theorem pN_le (m cnt : Nat) (T : Nat → Nat → Nat) (x : Nat) : pN m cnt T x ≤ cnt := by
  have := su_bd (f := fun i => if x < key m (T i) then 1 else 0) (o := 0) (c := 1) cnt (fun k _ => by show (if _ then 1 else 0) ≤ 1; split <;> omega)
  unfold pN; omega
def nzQ (P O : Nat → Nat → Option Nat) (I A : Nat → Nat → Int32) (J : Nat → Nat → Int64) (pl : List Nat) (m a b : Nat) (mv : MV) (B0 : Nat → Nat) (τ : TB) : Option Value → HS → List Nat → Prop := fun r σ' pl' => pl = pl' ∧ ∃ I' A' J', σ' = mC P O I' A' J' ∧ (∀ q k, ¬ (q = 110 ∧ k = 8) → I' q k = I q k) ∧ (∀ q, q ≠ 112 → q ≠ 131 → A' q = A q) ∧ (∀ q, q ≠ 111 → J' q = J q) ∧ bdR (A' 131) 0 B0 ∧ (¬ goodM m a b mv B0 τ.1 → (a = b ∨ ¬ goodM m b a mv B0 τ.1) → r = some (.int (-1))) ∧ (goodM m a b mv B0 τ.1 → r = some (.int (nI (pN m τ.2.1 τ.2.2.1 (key m (nbB m a b mv.2.1 B0 mv.1))))) ∧ I' 110 8 = @ite Int32 (∀ k, k < mv.1 → A 109 k = htN m a b mv B0 k) (Classical.propDecidable _) 1 0) ∧ (¬ goodM m a b mv B0 τ.1 → a ≠ b → goodM m b a mv B0 τ.1 → r = some (.int (nI (pN m τ.2.1 τ.2.2.1 (key m (nbB m b a mv.2.1 B0 mv.1))))) ∧ I' 110 8 = @ite Int32 (∀ k, k < mv.1 → A 109 k = htN m b a mv B0 k) (Classical.propDecidable _) 1 0)

theorem r_6_numberOf_0 {X : Ctx} (F : Fx X cX6_numberOf RX6 5 6 0 0) {P O : Nat → Nat → Option Nat} (hP : laP P) {I A : Nat → Nat → Int32} {J : Nat → Nat → Int64} {pl : List Nat} (hB : inB pl) {qc qo : Nat} (hk_qc : kC qc = 14) (hp_qc : qc ∈ pl) (hc9 : P 110 3 = some qc) (hk_qo : kC qo = 13) (hp_qo : qo ∈ pl) (ho9 : P 110 4 = some qo) {x2 x3 : Int32}
    (e_1 : WA X (mC P O I A J) pl 0 0 4 [(0, .ref 110), (1, .ref 106), (2, .int x2), (3, .int x3)] [.int x3, .int x2, .ref 106, .ref 110]) :
    WA X (mC P O I A J) pl 0 0 0 [(0, .ref 110), (1, .ref 106), (2, .int x2), (3, .int x3)] [] := by
  refine a_aload_n F 0 dX6_numberOf_0 rfl rfl ?_
  refine a_aload_n F 1 dX6_numberOf_1 rfl rfl ?_
  refine a_iload_n F 2 dX6_numberOf_2 rfl rfl ?_
  refine a_iload_n F 3 dX6_numberOf_3 rfl rfl ?_
  exact e_1

theorem r_6_numberOf_7 {X : Ctx} (F : Fx X cX6_numberOf RX6 5 6 0 0) {Φ : Option Value → HS → List Nat → Prop} (E : Ex X (some .int) 0 0 Φ) {P O : Nat → Nat → Option Nat} (hP : laP P) {I A : Nat → Nat → Int32} {J : Nat → Nat → Int64} {pl : List Nat} (hB : inB pl) {qc qo : Nat} (hk_qc : kC qc = 14) (hp_qc : qc ∈ pl) (hc9 : P 110 3 = some qc) (hk_qo : kC qo = 13) (hp_qo : qo ∈ pl) (ho9 : P 110 4 = some qo) {x2 x3 x9 : Int32}
    (e_1 : (¬ x9 = (-1)) → Φ (some (.int x9)) (mC P O I A J) pl)
    (e_2 : (x9 = (-1)) → (x2 = x3) → Φ (some (.int x9)) (mC P O I A J) pl)
    (e_3 : (x9 = (-1)) → (¬ (x2 = x3)) → WA X (mC P O I A J) pl 0 0 24 [(4, .int x9), (0, .ref 110), (1, .ref 106), (2, .int x2), (3, .int x3)] [.int x2, .int x3, .ref 106, .ref 110]) :
    WA X (mC P O I A J) pl 0 0 7 [(0, .ref 110), (1, .ref 106), (2, .int x2), (3, .int x3)] [.int x9] := by
  refine a_istore F dX6_numberOf_7 (by decide) rfl ?_
  refine a_iload F 0 dX6_numberOf_9 rfl ?_
  refine a_iconst (v := (-1)) F dX6_numberOf_11 (by decide) ?_
  refine a_icmp_ne (tgt := 30) F dX6_numberOf_12 (by decide) (fun (c_1 : ¬ x9 = (-1)) => ?_) (fun (c_1 : x9 = (-1)) => ?_)
  · refine a_iload F 0 dX6_numberOf_30 rfl ?_
    exact a_iret F E dX6_numberOf_32 (Nat.le_refl 0) (Nat.le_refl 0) (e_1 c_1)
  · refine a_iload_n F 3 dX6_numberOf_15 rfl rfl ?_
    refine a_iload_n F 4 dX6_numberOf_16 rfl rfl ?_
    refine a_icmp_eq (tgt := 30) F dX6_numberOf_17 (by decide) (fun (c_2 : x2 = x3) => ?_) (fun (c_2 : ¬ (x2 = x3)) => ?_)
    · refine a_iload F 0 dX6_numberOf_30 rfl ?_
      exact a_iret F E dX6_numberOf_32 (Nat.le_refl 0) (Nat.le_refl 0) (e_2 c_1 c_2)
    · refine a_aload_n F 1 dX6_numberOf_20 rfl rfl ?_
      refine a_aload_n F 2 dX6_numberOf_21 rfl rfl ?_
      refine a_iload_n F 4 dX6_numberOf_22 rfl rfl ?_
      refine a_iload_n F 3 dX6_numberOf_23 rfl rfl ?_
      exact e_3 c_1 c_2

theorem r_6_numberOf_27 {X : Ctx} (F : Fx X cX6_numberOf RX6 5 6 0 0) {Φ : Option Value → HS → List Nat → Prop} (E : Ex X (some .int) 0 0 Φ) {P O : Nat → Nat → Option Nat} (hP : laP P) {I A : Nat → Nat → Int32} {J : Nat → Nat → Int64} {pl : List Nat} (hB : inB pl) {qc qo : Nat} (hk_qc : kC qc = 14) (hp_qc : qc ∈ pl) (hc9 : P 110 3 = some qc) (hk_qo : kC qo = 13) (hp_qo : qo ∈ pl) (ho9 : P 110 4 = some qo) {x2 x3 x4 x9 : Int32}
    (e_1 : Φ (some (.int x9)) (mC P O I A J) pl) :
    WA X (mC P O I A J) pl 0 0 27 [(0, .ref 110), (1, .ref 106), (2, .int x2), (3, .int x3), (4, .int x4)] [.int x9] := by
  refine a_goto (tgt := 32) F dX6_numberOf_27 (by decide) ?_
  exact a_iret F E dX6_numberOf_32 (Nat.le_refl 0) (Nat.le_refl 0) (e_1)

set_option maxRecDepth 100000 in
theorem c_6_numberOf (l : Launch) {P O : Nat → Nat → Option Nat} (hP : laP P) (I A : Nat → Nat → Int32) (J : Nat → Nat → Int64) {pl : List Nat} (hB : inB pl) (m a b : Nat) (mv : MV) (B0 : Nat → Nat) (τ : TB) (hm : m ≤ 1) (ha : 1 ≤ a ∧ a ≤ 6) (hb9 : 1 ≤ b ∧ b ≤ 6) (hok : okB B0) (ht : tbS P I A J pl m τ) (hwt : τ.1 ≤ 9) (hmv : mvC I A mv) (hb : bdR (A 131) 0 B0) (hI : I 130 1 = nI m) : Con l 6 yX6_numberOf cX6_numberOf 5 (some .int) [.ref 110, .ref 106, .int (nI a), .int (nI b)] (mC P O I A J) pl 0 0 (nzQ P O I A J pl m a b mv B0 τ) := by
  refine Con.of (by decide) (Nat.le_of_ble_eq_true rfl) (fun X hX9 hn9 F E => ?_)
  obtain ⟨k1, k2, k3, k4, k5, k6, k7⟩ := tb_len ht
  have t3 := ht.2.1
  have t4 := ht.2.2.1
  have tc := ht.2.2.2.2.2.2.1
  have cab : nI a = nI b ↔ a = b := nI_eq (by omega) (by omega)
  have pn : ∀ x, ¬ nI (pN m τ.2.1 τ.2.2.1 x) = -1 := fun x z => by
    have h1 := pN_le m τ.2.1 τ.2.2.1 x
    have := nI_pos' (n := pN m τ.2.1 τ.2.2.1 x) (by omega)
    rw [z] at this; exact absurd this (by decide)
  refine r_6_numberOf_0 F hP hB k1 k2 t3 k3 k4 t4 ?_
  refine a_callV (b := 110) (As := [.ref 106, .int (nI a), .int (nI b)]) (st := []) (ci := 6) F (c_6_numberBy (xl X) hP I A J hB m a b mv B0 τ hm ha hb9 hok ht hwt hmv hb hI) ml_6_130 im_yX6_numberBy se_yX6_numberBy (by decide) (by decide) rfl (hB _ (by decide)) rfl rfl dX6_numberOf_4 (by decide) (Nat.le_refl 0) (Nat.le_refl 0) (hl_r (hB _ (by decide)) (hl_r (hB _ (by decide)) (hl_i (hl_i hl_nil)))) hs_nil ?_
  rintro r _ _ ⟨rfl, I1, A1, J1, rfl, i1, a1, j1, b1, hno, hyes⟩ _
  by_cases c : goodM m a b mv B0 τ.1
  · obtain ⟨rfl, h8⟩ := hyes c
    refine r_6_numberOf_7 F E hP hB k1 k2 t3 k3 k4 t4 (fun _ => ?_) (fun z => absurd z (pn _)) (fun z => absurd z (pn _))
    exact ⟨rfl, I1, A1, J1, rfl, i1, a1, j1, b1, fun h => absurd c h, fun _ => ⟨rfl, h8⟩, fun h => absurd c h⟩
  · obtain rfl := hno c
    refine r_6_numberOf_7 F E hP hB k1 k2 t3 k3 k4 t4 (fun z => absurd rfl z) (fun _ z => ?_) (fun _ z => ?_)
    · have e := cab.mp z
      exact ⟨rfl, I1, A1, J1, rfl, i1, a1, j1, b1, fun _ _ => rfl, fun h => absurd h c, fun _ h => absurd e h⟩
    · have ne : a ≠ b := fun h => z (cab.mpr h)
      have ht1 : tbS P I1 A1 J1 pl m τ := by
        unfold tbS
        rw [i1 110 5 (by omega), i1 110 6 (by omega), i1 110 7 (by omega), a1 _ (by omega) (by omega), j1 _ (by omega)]; exact ht
      have hmv1 : mvC I1 A1 mv := by
        unfold mvC
        rw [i1 106 5 (by omega), a1 107 (by decide) (by decide), a1 108 (by decide) (by decide), a1 109 (by decide) (by decide)]; exact hmv
      refine a_callV (b := 110) (As := [.ref 106, .int (nI b), .int (nI a)]) (st := []) (ci := 6) F (c_6_numberBy (xl X) hP I1 A1 J1 hB m b a mv B0 τ hm hb9 ha hok ht1 hwt hmv1 b1 (by rw [i1 130 1 (by omega)]; exact hI)) ml_6_130 im_yX6_numberBy se_yX6_numberBy (by decide) (by decide) rfl (hB _ (by decide)) rfl rfl dX6_numberOf_24 (by decide) (Nat.le_refl 0) (Nat.le_refl 0) (hl_i (hl_r (hB _ (by decide)) (hl_r (hB _ (by decide)) (hl_i (hl_i hl_nil))))) hs_nil ?_
      rintro r _ _ ⟨rfl, I2, A2, J2, rfl, i2, a2, j2, b2, hno2, hyes2⟩ _
      have i3 : ∀ q k, ¬ (q = 110 ∧ k = 8) → I2 q k = I q k := fun q k h => (i2 q k h).trans (i1 q k h)
      have a3 : ∀ q, q ≠ 112 → q ≠ 131 → A2 q = A q := fun q h h2 => (a2 q h h2).trans (a1 q h h2)
      have j3 : ∀ q, q ≠ 111 → J2 q = J q := fun q h => (j2 q h).trans (j1 q h)
      refine a_sub [1, 2, 3, 4, 0] rfl ?_
      by_cases c2 : goodM m b a mv B0 τ.1
      · obtain ⟨rfl, h8⟩ := hyes2 c2
        rw [a1 109 (by decide) (by decide)] at h8
        exact r_6_numberOf_27 F E hP hB k1 k2 t3 k3 k4 t4 ⟨rfl, I2, A2, J2, rfl, i3, a3, j3, b2, fun _ h => h.elim (fun h => absurd h ne) (fun h => absurd c2 h), fun h => absurd h c, fun _ _ _ => ⟨rfl, h8⟩⟩
      · obtain rfl := hno2 c2
        exact r_6_numberOf_27 F E hP hB k1 k2 t3 k3 k4 t4 ⟨rfl, I2, A2, J2, rfl, i3, a3, j3, b2, fun _ _ => rfl, fun h => absurd h c, fun _ _ h => absurd h c2⟩
