/-! the table of the results, as a value: weight, number, boards, ways, how often it has grown -/
abbrev TB : Type := Nat × Nat × (Nat → Nat → Nat) × (Nat → Nat) × Nat
theorem kR : ∀ g, g < 8 → kC (300 + 2 * g) = 14 ∧ kC (301 + 2 * g) = 13 ∧ nC (300 + 2 * g) = 240 * 2 ^ g ∧ nC (301 + 2 * g) = 48 * 2 ^ g := by decide
def rtM (pl : List Nat) (g : Nat) : Prop := g ≤ 6 ∧ ∀ j, j ≤ 6 → (j ≤ g → 300 + 2 * j ∈ pl ∧ 301 + 2 * j ∈ pl) ∧ (g < j → 300 + 2 * j ∉ pl ∧ 301 + 2 * j ∉ pl)
def tbS (P : Nat → Nat → Option Nat) (I A : Nat → Nat → Int32) (J : Nat → Nat → Int64) (pl : List Nat) (m : Nat) (τ : TB) : Prop := rtM pl τ.2.2.2.2 ∧ P 110 3 = some (300 + 2 * τ.2.2.2.2) ∧ P 110 4 = some (301 + 2 * τ.2.2.2.2) ∧ I 110 5 = nI τ.1 ∧ I 110 6 = nI m ∧ I 110 7 = nI τ.2.1 ∧ τ.2.1 ≤ 48 * 2 ^ τ.2.2.2.2 ∧ srtT m τ.2.1 τ.2.2.1 ∧ ∃ o, tbR (A (301 + 2 * τ.2.2.2.2)) (J (300 + 2 * τ.2.2.2.2)) m τ.2.1 o τ.2.2.1 τ.2.2.2.1
def frX (P : Nat → Nat → Option Nat) (I A : Nat → Nat → Int32) (J : Nat → Nat → Int64) (pl : List Nat) (P' : Nat → Nat → Option Nat) (I' A' : Nat → Nat → Int32) (J' : Nat → Nat → Int64) (pl' : List Nat) : Prop := (∀ q k, ¬ (q = 110 ∧ (k = 3 ∨ k = 4)) → P' q k = P q k) ∧ (∀ q k, ¬ (q = 110 ∧ 5 ≤ k ∧ k ≤ 7) → I' q k = I q k) ∧ (∀ q, q < 300 ∨ 314 ≤ q → A' q = A q) ∧ (∀ q, q ≠ 111 → q < 300 ∨ 314 ≤ q → J' q = J q) ∧ (∀ q, q ∈ pl → q ∈ pl') ∧ (∀ q, q ∈ pl' → q ∈ pl ∨ (300 ≤ q ∧ q < 314))
theorem frX.rf (P : Nat → Nat → Option Nat) (I A : Nat → Nat → Int32) (J : Nat → Nat → Int64) (pl : List Nat) : frX P I A J pl P I A J pl := ⟨fun _ _ _ => rfl, fun _ _ _ => rfl, fun _ _ => rfl, fun _ _ _ => rfl, fun _ h => h, fun _ h => Or.inl h⟩
theorem frX.tr {P P' P2 : Nat → Nat → Option Nat} {I A I' A' I2 A2 : Nat → Nat → Int32} {J J' J2 : Nat → Nat → Int64} {pl pl' pl2 : List Nat} (h : frX P I A J pl P' I' A' J' pl') (h2 : frX P' I' A' J' pl' P2 I2 A2 J2 pl2) : frX P I A J pl P2 I2 A2 J2 pl2 :=
  ⟨fun q k z => (h2.1 q k z).trans (h.1 q k z), fun q k z => (h2.2.1 q k z).trans (h.2.1 q k z), fun q z => (h2.2.2.1 q z).trans (h.2.2.1 q z), fun q y z => (h2.2.2.2.1 q y z).trans (h.2.2.2.1 q y z), fun q z => h2.2.2.2.2.1 q (h.2.2.2.2.1 q z), fun q z => (h2.2.2.2.2.2 q z).elim (h.2.2.2.2.2 q) Or.inr⟩
theorem frX.la {P P' : Nat → Nat → Option Nat} {I A I' A' : Nat → Nat → Int32} {J J' : Nat → Nat → Int64} {pl pl' : List Nat} (h : frX P I A J pl P' I' A' J' pl') (hP : laP P) : laP P' := fun p k hk => by
  rw [h.1 p k (fun z => by
    obtain ⟨rfl, rfl | rfl⟩ := z
    · exact hk rfl
    · exact hk rfl)]
  exact hP p k hk
theorem frX.lf {P P' : Nat → Nat → Option Nat} {I A I' A' : Nat → Nat → Int32} {J J' : Nat → Nat → Int64} {pl pl' : List Nat} (h : frX P I A J pl P' I' A' J' pl') (hF : laF P) : laF P' := fun p hp => by
  rw [← hF p hp]; funext k
  exact h.1 p k (fun z => by rw [z.1] at hp; exact absurd hp (by decide))
theorem frX.b {P P' : Nat → Nat → Option Nat} {I A I' A' : Nat → Nat → Int32} {J J' : Nat → Nat → Int64} {pl pl' : List Nat} (h : frX P I A J pl P' I' A' J' pl') (hB : inB pl) : inB pl' := fun q z => h.2.2.2.2.1 q (hB q z)
theorem tbR_cg {R R' : Nat → Int32} {C C' : Nat → Int64} {m cnt : Nat} {o : Nat → Nat} {T : Nat → Nat → Nat} {W : Nat → Nat} (h : tbR R C m cnt o T W) (h1 : ∀ i, i < cnt → R' i = R i) (h2 : ∀ i, i < 5 * cnt → C' i = C i) : tbR R' C' m cnt o T W := by
  obtain ⟨a1, a2, a3, a4⟩ := h
  refine ⟨fun i hi => by rw [h1 i hi]; exact a1 i hi, a2, fun i hi => ⟨(a3 i hi).1, fun k hk => ?_⟩, fun i hi => ⟨(a4 i hi).1, ?_⟩⟩
  · have := (a1 i hi).2
    show C' (5 * o i + k) = _
    rw [h2 _ (by omega)]; exact (a3 i hi).2 k hk
  · have := (a1 i hi).2
    rw [h2 _ (by omega)]; exact (a4 i hi).2
theorem tbR_ins {R : Nat → Int32} {C K : Nat → Int64} {m cnt p w : Nat} {o : Nat → Nat} {T : Nat → Nat → Nat} {W : Nat → Nat} {B : Nat → Nat} (h : tbR R C m cnt o T W) (hp : p ≤ cnt) (hB : dgB B) (hK : keR K m B) (hw : w < 2 ^ 40) : tbR (upd (va_cpy R R p (p + 1) (cnt - p)) p (nI cnt)) (vp_updL (va_cpy K C 0 (5 * cnt) 4) (5 * cnt + 4) (lN w)) m (cnt + 1) (inT o p cnt) (inT T p B) (inT W p w) := by
  obtain ⟨a1, a2, a3, a4⟩ := h
  have oc : ∀ i, i < cnt + 1 → (i < p ∧ inT o p cnt i = o i ∧ inT T p B i = T i ∧ inT W p w i = W i) ∨ (i = p ∧ inT o p cnt i = cnt ∧ inT T p B i = B ∧ inT W p w i = w) ∨ (p < i ∧ i - 1 < cnt ∧ inT o p cnt i = o (i - 1) ∧ inT T p B i = T (i - 1) ∧ inT W p w i = W (i - 1)) := fun i hi => by
    unfold inT
    rcases Nat.lt_trichotomy i p with c | c | c
    · left; rw [if_pos c, if_pos c, if_pos c]; exact ⟨c, rfl, rfl, rfl⟩
    · right; left; rw [if_neg (by omega), if_pos c, if_neg (by omega), if_pos c, if_neg (by omega), if_pos c]; exact ⟨c, rfl, rfl, rfl⟩
    · right; right; rw [if_neg (by omega), if_neg (by omega), if_neg (by omega), if_neg (by omega), if_neg (by omega), if_neg (by omega)]; exact ⟨c, by omega, rfl, rfl, rfl⟩
  have cell : ∀ i k, i < cnt → k < 5 → (vp_updL (va_cpy K C 0 (5 * cnt) 4) (5 * cnt + 4) (lN w)) (5 * i + k) = C (5 * i + k) := fun i k hi hk => by
    rw [updL_out (by omega)]; unfold va_cpy; rw [if_neg (by omega)]
  have row : ∀ i, i < cnt + 1 → (upd (va_cpy R R p (p + 1) (cnt - p)) p (nI cnt)) i = nI (inT o p cnt i) := fun i hi => by
    rcases oc i hi with ⟨c, e, -, -⟩ | ⟨c, e, -, -⟩ | ⟨c, c2, e, -, -⟩ <;> rw [e]
    · rw [upd_out (by omega)]; unfold va_cpy; rw [if_neg (by omega)]; exact (a1 i (by omega)).1
    · subst c; rw [upd_in]
    · rw [upd_out (by omega)]; unfold va_cpy; rw [if_pos (by omega), show p + (i - (p + 1)) = i - 1 by omega]; exact (a1 (i - 1) c2).1
  refine ⟨fun i hi => ⟨row i hi, ?_⟩, fun i j hi hj h => ?_, fun i hi => ?_, fun i hi => ?_⟩
  · rcases oc i hi with ⟨c, e, -, -⟩ | ⟨c, e, -, -⟩ | ⟨c, c2, e, -, -⟩ <;> rw [e]
    · have := (a1 i (by omega)).2; omega
    · omega
    · have := (a1 (i - 1) c2).2; omega
  · rcases oc i hi with ⟨c, e, -, -⟩ | ⟨c, e, -, -⟩ | ⟨c, c2, e, -, -⟩ <;> rcases oc j hj with ⟨d, f, -, -⟩ | ⟨d, f, -, -⟩ | ⟨d, d2, f, -, -⟩ <;> rw [e, f] at h
    · exact a2 i j (by omega) (by omega) h
    · have := (a1 i (by omega)).2; omega
    · have := a2 i (j - 1) (by omega) d2 h; omega
    · have := (a1 j (by omega)).2; omega
    · omega
    · have := (a1 (j - 1) d2).2; omega
    · have := a2 (i - 1) j c2 (by omega) h; omega
    · have := (a1 (i - 1) c2).2; omega
    · have := a2 (i - 1) (j - 1) c2 d2 h; omega
  · rcases oc i hi with ⟨c, e, f, -⟩ | ⟨c, e, f, -⟩ | ⟨c, c2, e, f, -⟩ <;> rw [e, f]
    · have := (a1 i (by omega)).2
      exact ⟨(a3 i (by omega)).1, fun k hk => (cell _ _ this (by omega)).trans ((a3 i (by omega)).2 k hk)⟩
    · refine ⟨hB, fun k hk => ?_⟩
      show vp_updL _ _ _ (5 * cnt + k) = _
      rw [updL_out (by omega)]; unfold va_cpy; rw [if_pos (by omega), show 0 + (5 * cnt + k - 5 * cnt) = k by omega]; exact hK k hk
    · have := (a1 (i - 1) c2).2
      exact ⟨(a3 (i - 1) c2).1, fun k hk => (cell _ _ this (by omega)).trans ((a3 (i - 1) c2).2 k hk)⟩
  · rcases oc i hi with ⟨c, e, -, f⟩ | ⟨c, e, -, f⟩ | ⟨c, c2, e, -, f⟩ <;> rw [e, f]
    · have := (a1 i (by omega)).2
      exact ⟨(a4 i (by omega)).1, by rw [cell _ _ this (by omega)]; exact (a4 i (by omega)).2⟩
    · exact ⟨hw, updL_in⟩
    · have := (a1 (i - 1) c2).2
      exact ⟨(a4 (i - 1) c2).1, by rw [cell _ _ this (by omega)]; exact (a4 (i - 1) c2).2⟩
def gwN (τ : TB) : Nat := if τ.2.1 < 48 * 2 ^ τ.2.2.2.2 then 0 else 1
def insT (τ : TB) (p : Nat) (B : Nat → Nat) (w : Nat) : TB := (τ.1, τ.2.1 + 1, inT τ.2.2.1 p B, inT τ.2.2.2.1 p w, τ.2.2.2.2 + gwN τ)
def inQ (P O : Nat → Nat → Option Nat) (I A : Nat → Nat → Int32) (J : Nat → Nat → Int64) (pl : List Nat) (m : Nat) (τ : TB) : Option Value → HS → List Nat → Prop := fun r σ' pl' => r = none ∧ ∃ P' I' A' J', σ' = mC P' O I' A' J' ∧ frX P I A J pl P' I' A' J' pl' ∧ clC P' O pl' ∧ tbS P' I' A' J' pl' m τ

theorem r_6_insert_0 {X : Ctx} {mc ms k1 k2 : Nat} (F : Fx X cX6_insert RX6 4 2 mc ms) (hk1 : k1 ≤ mc) (hk2 : k2 ≤ ms) {P O : Nat → Nat → Option Nat} (hP : laP P) {I A : Nat → Nat → Int32} {J : Nat → Nat → Int64} {pl : List Nat} (hB : inB pl) {qc qo : Nat} (hk_qc : kC qc = 14) (hp_qc : qc ∈ pl) (hc9 : P 110 3 = some qc) (hk_qo : kC qo = 13) (hp_qo : qo ∈ pl) (ho9 : P 110 4 = some qo) {x1 : Int32} {y2 : Int64}
    (e_1 : ((I 110 7) < (Int32.ofNat (nC qo))) → WA X (mC P O I A J) pl k1 k2 48 [(0, .ref 110), (1, .int x1), (2, .long y2)] [])
    (e_2 : (¬ ((I 110 7) < (Int32.ofNat (nC qo)))) → WA X (mC P O I A J) pl k1 k2 24 [(0, .ref 110), (1, .int x1), (2, .long y2)] [.int (2 * (Int32.ofNat (nC qo))), .ref qo, .ref 110]) :
    WA X (mC P O I A J) pl k1 k2 0 [(0, .ref 110), (1, .int x1), (2, .long y2)] [] := by
  refine a_aload_n F 0 dX6_insert_0 rfl rfl ?_
  refine a_geti F fl_6_30 rfl (hB _ (by decide)) rfl dX6_insert_1 ?_
  refine a_aload_n F 0 dX6_insert_4 rfl rfl ?_
  refine a_getr (b := qo) F fl_6_22 rfl (hB _ (by decide)) rfl ho9 dX6_insert_5 ?_
  refine a_alen (v := Int32.ofNat (nC qo)) F (hp_qo) hk_qo (by decide) (by decide) rfl dX6_insert_8 ?_
  refine a_icmp_lt (tgt := 48) F dX6_insert_9 (by decide) (fun (c_1 : (I 110 7) < (Int32.ofNat (nC qo))) => ?_) (fun (c_1 : ¬ ((I 110 7) < (Int32.ofNat (nC qo)))) => ?_)
  · exact e_1 c_1
  · refine a_aload_n F 0 dX6_insert_12 rfl rfl ?_
    refine a_aload_n F 0 dX6_insert_13 rfl rfl ?_
    refine a_getr (b := qo) F fl_6_22 rfl (hB _ (by decide)) rfl ho9 dX6_insert_14 ?_
    refine a_iconst (v := 2) F dX6_insert_17 (by decide) ?_
    refine a_aload_n F 0 dX6_insert_18 rfl rfl ?_
    refine a_getr (b := qo) F fl_6_22 rfl (hB _ (by decide)) rfl ho9 dX6_insert_19 ?_
    refine a_alen (v := Int32.ofNat (nC qo)) F (hp_qo) hk_qo (by decide) (by decide) rfl dX6_insert_22 ?_
    refine a_imul F dX6_insert_23 ?_
    exact e_2 c_1

theorem r_6_insert_30 {X : Ctx} {mc ms k1 k2 : Nat} (F : Fx X cX6_insert RX6 4 2 mc ms) (hk1 : k1 ≤ mc) (hk2 : k2 ≤ ms) {P O : Nat → Nat → Option Nat} (hP : laP P) {I A : Nat → Nat → Int32} {J : Nat → Nat → Int64} {pl : List Nat} (hB : inB pl) {qc qo : Nat} (hk_qc : kC qc = 14) (hp_qc : qc ∈ pl) (hc9 : P 110 3 = some qc) (hk_qo : kC qo = 13) (hp_qo : qo ∈ pl) (ho9 : P 110 4 = some qo) {x1 : Int32} {y2 : Int64}
    (e_1 : WA X (mC P O I A J) pl k1 k2 42 [(0, .ref 110), (1, .int x1), (2, .long y2)] [.int (2 * (Int32.ofNat (nC qc))), .ref qc, .ref 110]) :
    WA X (mC P O I A J) pl k1 k2 30 [(0, .ref 110), (1, .int x1), (2, .long y2)] [] := by
  refine a_aload_n F 0 dX6_insert_30 rfl rfl ?_
  refine a_aload_n F 0 dX6_insert_31 rfl rfl ?_
  refine a_getr (b := qc) F fl_6_19 rfl (hB _ (by decide)) rfl hc9 dX6_insert_32 ?_
  refine a_iconst (v := 2) F dX6_insert_35 (by decide) ?_
  refine a_aload_n F 0 dX6_insert_36 rfl rfl ?_
  refine a_getr (b := qc) F fl_6_19 rfl (hB _ (by decide)) rfl hc9 dX6_insert_37 ?_
  refine a_alen (v := Int32.ofNat (nC qc)) F (hp_qc) hk_qc (by decide) (by decide) rfl dX6_insert_40 ?_
  refine a_imul F dX6_insert_41 ?_
  exact e_1

theorem r_6_insert_48 {X : Ctx} {mc ms k1 k2 : Nat} (F : Fx X cX6_insert RX6 4 2 mc ms) (hk1 : k1 ≤ mc) (hk2 : k2 ≤ ms) {Φ : Option Value → HS → List Nat → Prop} (E : Ex X none mc ms Φ) {P O : Nat → Nat → Option Nat} (hP : laP P) {I A : Nat → Nat → Int32} {J : Nat → Nat → Int64} {pl : List Nat} (hB : inB pl) {qc qo : Nat} (hk_qc : kC qc = 14) (hp_qc : qc ∈ pl) (hc9 : P 110 3 = some qc) (hk_qo : kC qo = 13) (hp_qo : qo ∈ pl) (ho9 : P 110 4 = some qo) {x1 : Int32} {y2 : Int64}
    (o_1 : ¬ ((I 110 7) * 5) < 0)
    (o_2 : 0 + 4 ≤ 4)
    (o_3 : ((I 110 7) * 5).toNatClampNeg + 4 ≤ (nC qc))
    (o_4 : vp_in (((I 110 7) * 5) + 4) (nC qc))
    (o_5 : ¬ x1 < 0)
    (o_6 : ¬ (x1 + 1) < 0)
    (o_7 : ¬ ((I 110 7) - x1) < 0)
    (o_8 : x1.toNatClampNeg + ((I 110 7) - x1).toNatClampNeg ≤ (nC qo))
    (o_9 : (x1 + 1).toNatClampNeg + ((I 110 7) - x1).toNatClampNeg ≤ (nC qo))
    (o_10 : vp_in x1 (nC qo))
    (e_11 : Φ none (mC P O (up2 I 110 7 ((I 110 7) + 1)) (up1 (up1 A qo (va_cpy (A qo) (A qo) x1.toNatClampNeg (x1 + 1).toNatClampNeg ((I 110 7) - x1).toNatClampNeg)) qo (upd ((up1 A qo (va_cpy (A qo) (A qo) x1.toNatClampNeg (x1 + 1).toNatClampNeg ((I 110 7) - x1).toNatClampNeg)) qo) x1.toNatClampNeg (I 110 7))) (up1 (up1 J qc (va_cpy (J 111) (J qc) 0 ((I 110 7) * 5).toNatClampNeg 4)) qc (vp_updL ((up1 J qc (va_cpy (J 111) (J qc) 0 ((I 110 7) * 5).toNatClampNeg 4)) qc) (((I 110 7) * 5) + 4).toNatClampNeg y2))) pl) :
    WA X (mC P O I A J) pl k1 k2 48 [(0, .ref 110), (1, .int x1), (2, .long y2)] [] := by
  refine a_aload_n F 0 dX6_insert_48 rfl rfl ?_
  refine a_getr (b := 111) F fl_6_11 rfl (hB _ (by decide)) rfl ((hP 110 1 (by decide)).trans rfl) dX6_insert_49 ?_
  refine a_iconst (v := 0) F dX6_insert_52 (by decide) ?_
  refine a_aload_n F 0 dX6_insert_53 rfl rfl ?_
  refine a_getr (b := qc) F fl_6_19 rfl (hB _ (by decide)) rfl hc9 dX6_insert_54 ?_
  refine a_aload_n F 0 dX6_insert_57 rfl rfl ?_
  refine a_geti F fl_6_30 rfl (hB _ (by decide)) rfl dX6_insert_58 ?_
  refine a_iconst (v := 5) F dX6_insert_61 (by decide) ?_
  refine a_imul F dX6_insert_62 ?_
  refine a_iconst (v := 4) F dX6_insert_63 (by decide) ?_
  refine a_cpyl F cp_6_116 (hB _ (by decide)) (hp_qc) rfl hk_qc (by decide) (o_1) (by decide) (o_2) (o_3) (by decide) (by decide) dX6_insert_64 ?_
  refine a_aload_n F 0 dX6_insert_67 rfl rfl ?_
  refine a_getr (b := qc) F fl_6_19 rfl (hB _ (by decide)) rfl hc9 dX6_insert_68 ?_
  refine a_aload_n F 0 dX6_insert_71 rfl rfl ?_
  refine a_geti F fl_6_30 rfl (hB _ (by decide)) rfl dX6_insert_72 ?_
  refine a_iconst (v := 5) F dX6_insert_75 (by decide) ?_
  refine a_imul F dX6_insert_76 ?_
  refine a_iconst (v := 4) F dX6_insert_77 (by decide) ?_
  refine a_iadd F dX6_insert_78 ?_
  refine a_lload_n F 2 dX6_insert_79 rfl rfl ?_
  refine a_last F (hp_qc) hk_qc (o_4) dX6_insert_80 ?_
  refine a_aload_n F 0 dX6_insert_81 rfl rfl ?_
  refine a_getr (b := qo) F fl_6_22 rfl (hB _ (by decide)) rfl ho9 dX6_insert_82 ?_
  refine a_iload_n F 1 dX6_insert_85 rfl rfl ?_
  refine a_aload_n F 0 dX6_insert_86 rfl rfl ?_
  refine a_getr (b := qo) F fl_6_22 rfl (hB _ (by decide)) rfl ho9 dX6_insert_87 ?_
  refine a_iload_n F 1 dX6_insert_90 rfl rfl ?_
  refine a_iconst (v := 1) F dX6_insert_91 (by decide) ?_
  refine a_iadd F dX6_insert_92 ?_
  refine a_aload_n F 0 dX6_insert_93 rfl rfl ?_
  refine a_geti F fl_6_30 rfl (hB _ (by decide)) rfl dX6_insert_94 ?_
  refine a_iload_n F 1 dX6_insert_97 rfl rfl ?_
  refine a_isub F dX6_insert_98 ?_
  refine a_cpyi F cp_6_116 (hp_qo) (hp_qo) hk_qo hk_qo (o_5) (o_6) (o_7) (o_8) (o_9) (by decide) (by decide) dX6_insert_99 ?_
  refine a_aload_n F 0 dX6_insert_102 rfl rfl ?_
  refine a_getr (b := qo) F fl_6_22 rfl (hB _ (by decide)) rfl ho9 dX6_insert_103 ?_
  refine a_iload_n F 1 dX6_insert_106 rfl rfl ?_
  refine a_aload_n F 0 dX6_insert_107 rfl rfl ?_
  refine a_geti F fl_6_30 rfl (hB _ (by decide)) rfl dX6_insert_108 ?_
  refine a_iast F (hp_qo) hk_qo (o_10) dX6_insert_111 ?_
  refine a_aload_n F 0 dX6_insert_112 rfl rfl ?_
  refine a_dup F dX6_insert_113 rfl ?_
  refine a_geti F fl_6_30 rfl (hB _ (by decide)) rfl dX6_insert_114 ?_
  refine a_iconst (v := 1) F dX6_insert_117 (by decide) ?_
  refine a_iadd F dX6_insert_118 ?_
  refine a_puti F fl_6_30 rfl rfl rfl rfl (hB _ (by decide)) rfl dX6_insert_119 ?_
  exact a_vret F E dX6_insert_122 hk1 hk2 (e_11)

set_option maxRecDepth 100000 in
theorem c_6_insert (l : Launch) {P O : Nat → Nat → Option Nat} (hP : laP P) (I A : Nat → Nat → Int32) (J : Nat → Nat → Int64) {pl : List Nat} (hB : inB pl) (m p w : Nat) (B : Nat → Nat) (τ : TB) (hC : clC P O pl) (ht : tbS P I A J pl m τ) (hp : p ≤ τ.2.1) (hc : τ.2.1 < 3072) (hd : dgB B) (hK : keR (J 111) m B) (hw : w < 2 ^ 40) (hs : srtT m (τ.2.1 + 1) (inT τ.2.2.1 p B)) : Con l 2 yX6_insert cX6_insert 4 none [.ref 110, .int (nI p), .long (lN w)] (mC P O I A J) pl (2 * gwN τ) (576 * 2 ^ τ.2.2.2.2 * gwN τ) (inQ P O I A J pl m (insT τ p B w)) := by
  refine Con.of (by decide) (Nat.le_of_ble_eq_true rfl) (fun X hX9 hn9 F E => ?_)
  obtain ⟨wt, cnt, T, W, g⟩ := τ
  obtain ⟨hM, t3, t4, t5, t6, t7, tc, -, o, tr⟩ := ht
  dsimp only at hM t3 t4 t5 t6 t7 tc tr hp hc hs
  have F : Fx X cX6_insert RX6 4 2 (2 * gwN (wt, cnt, T, W, g)) (576 * 2 ^ g * gwN (wt, cnt, T, W, g)) := F
  have E : Ex X none (2 * gwN (wt, cnt, T, W, g)) (576 * 2 ^ g * gwN (wt, cnt, T, W, g)) (inQ P O I A J pl m (insT (wt, cnt, T, W, g) p B w)) := E
  have hg := hM.1
  obtain ⟨kc, ko, nc, no⟩ := kR g (by omega)
  have p2 : 2 ^ g ≤ 64 := Nat.pow_le_pow_right (n := 2) (by decide) hg
  have eg : ∀ x, gwN (wt, cnt, T, W, g) = x → insT (wt, cnt, T, W, g) p B w = (wt, cnt + 1, inT T p B, inT W p w, g + x) := fun x h => by unfold insT; rw [h]
  have fin : ∀ (k1 k2 : Nat) (P1 : Nat → Nat → Option Nat) (A1 : Nat → Nat → Int32) (J1 : Nat → Nat → Int64) (pl1 : List Nat) (g1 : Nat), k1 ≤ 2 * gwN (wt, cnt, T, W, g) → k2 ≤ 576 * 2 ^ g * gwN (wt, cnt, T, W, g) → g + gwN (wt, cnt, T, W, g) = g1 → frX P I A J pl P1 I A1 J1 pl1 → clC P1 O pl1 → rtM pl1 g1 → P1 110 3 = some (300 + 2 * g1) → P1 110 4 = some (301 + 2 * g1) → cnt < 48 * 2 ^ g1 → tbR (A1 (301 + 2 * g1)) (J1 (300 + 2 * g1)) m cnt o T W → J1 111 = J 111 → WA X (mC P1 O I A1 J1) pl1 k1 k2 48 [(0, .ref 110), (1, .int (nI p)), (2, .long (lN w))] [] := by
    intro k1 k2 P1 A1 J1 pl1 g1 h1 h2 hg1 fx c1 hM1 q3 q4 lc tr1 j1
    obtain ⟨kc1, ko1, nc1, no1⟩ := kR g1 (by have := hM1.1; omega)
    have mem := (hM1.2 g1 hM1.1).1 (Nat.le_refl _)
    have p21 : 2 ^ g1 ≤ 64 := Nat.pow_le_pow_right (n := 2) (by decide) hM1.1
    have hB1 := fx.b hB
    have e5 : I 110 7 * 5 = nI (5 * cnt) := by rw [t7, show nI cnt * 5 = nI (cnt * 5) from (Int32.ofNat_mul cnt 5).symm, Nat.mul_comm]
    have e54 : I 110 7 * 5 + 4 = nI (5 * cnt + 4) := by rw [e5]; exact nI_add _ 4
    have ep : nI p + 1 = nI (p + 1) := nI_1 p
    have ec : I 110 7 - nI p = nI (cnt - p) := by rw [t7]; exact pk_sub hp
    have r1 : (nI (5 * cnt)).toNatClampNeg = 5 * cnt := nI_clamp (by omega)
    have r2 : (nI (5 * cnt + 4)).toNatClampNeg = 5 * cnt + 4 := nI_clamp (by omega)
    have r3 : (nI p).toNatClampNeg = p := nI_clamp (by omega)
    have r4 : (nI (p + 1)).toNatClampNeg = p + 1 := nI_clamp (by omega)
    have r5 : (nI (cnt - p)).toNatClampNeg = cnt - p := nI_clamp (by omega)
    have nn : ∀ n, n < 2 ^ 31 → ¬ nI n < 0 := fun n h => Int32.not_lt.mpr (nI_pos' h)
    refine r_6_insert_48 F h1 h2 E (fx.la hP) hB1 kc1 mem.1 q3 ko1 mem.2 q4 (by rw [e5]; exact nn _ (by omega)) (by decide) (by rw [e5, r1, nc1]; omega) (by rw [e54, nc1]; exact vp_in_nI (by omega) (by omega)) (nn _ (by omega)) (by rw [ep]; exact nn _ (by omega)) (by rw [ec]; exact nn _ (by omega)) (by rw [ec, r3, r5, no1]; omega) (by rw [ec, ep, r4, r5, no1]; omega) (by rw [no1]; exact vp_in_nI (by omega) (by omega)) ?_
    rw [e54, e5, ep, ec, r1, r2, r3, r4, r5, up1_up1, up1_s, up1_up1, up1_s, t7, nI_1, j1]
    rw [eg (gwN (wt, cnt, T, W, g)) rfl, hg1]
    have i3 : ∀ q k, ¬ (q = 110 ∧ 5 ≤ k ∧ k ≤ 7) → up2 I 110 7 (nI (cnt + 1)) q k = I q k := fun q k h => by
      by_cases c : q = 110
      · subst c; exact up2_k (fun z => h ⟨rfl, by omega, by omega⟩)
      · exact up2_p c
    refine ⟨rfl, P1, _, _, _, rfl, ⟨fx.1, i3, fun q h => ?_, fun q h1 h => ?_, fx.2.2.2.2.1, fx.2.2.2.2.2⟩, c1, hM1, q3, q4, ?_, ?_, up2_s, by show cnt + 1 ≤ 48 * 2 ^ g1; omega, hs, inT o p cnt, ?_⟩
    · rw [up1_p (by have := hM1.1; omega)]; exact fx.2.2.1 q h
    · rw [up1_p (by have := hM1.1; omega)]; exact fx.2.2.2.1 q h1 h
    · exact (up2_k (by decide)).trans t5
    · exact (up2_k (by decide)).trans t6
    · show tbR (up1 A1 (301 + 2 * g1) _ (301 + 2 * g1)) (up1 J1 (300 + 2 * g1) _ (300 + 2 * g1)) _ _ _ _ _
      rw [up1_s, up1_s]
      exact tbR_ins tr1 hp hd hK hw
  have en : Int32.ofNat (nC (301 + 2 * g)) = nI (48 * 2 ^ g) := by show nI (nC (301 + 2 * g)) = _; rw [no]
  have mem := (hM.2 g hg).1 (Nat.le_refl _)
  refine r_6_insert_0 F (Nat.zero_le _) (Nat.zero_le _) hP hB kc mem.1 t3 ko mem.2 t4 (fun z => ?_) (fun z => ?_)
  · rw [en, t7] at z
    have lc := (nI_ltI (by omega) (by omega)).mp z
    have e0 : gwN (wt, cnt, T, W, g) = 0 := by unfold gwN; exact if_pos lc
    exact fin 0 0 P A J pl g (Nat.zero_le _) (Nat.zero_le _) (by rw [e0]; rfl) (frX.rf P I A J pl) hC hM t3 t4 lc tr rfl
  · rw [en, t7] at z
    have lc : ¬ cnt < 48 * 2 ^ g := fun y => z ((nI_ltI (by omega) (by omega)).mpr y)
    have e1 : gwN (wt, cnt, T, W, g) = 1 := by unfold gwN; exact if_neg lc
    have g6 : g + 1 ≤ 6 := by
      rcases Nat.lt_or_ge g 6 with y | y
      · exact y
      · obtain rfl : g = 6 := by omega
        have : (2 : Nat) ^ 6 = 64 := rfl
        omega
    have pp : 2 ^ (g + 1) = 2 * 2 ^ g := by rw [Nat.pow_succ, Nat.mul_comm]
    have p3 : 0 < 2 ^ g := Nat.pow_pos (by decide)
    obtain ⟨kc1, ko1, nc1, no1⟩ := kR (g + 1) (by omega)
    have nin := (hM.2 (g + 1) g6).2 (by omega)
    have hs2 := hM
    rw [e1] at F E
    have q1 : 2 * Int32.ofNat (nC (301 + 2 * g)) = nI (nC (301 + 2 * (g + 1))) := by rw [no, no1, show 2 * Int32.ofNat (48 * 2 ^ g) = nI (2 * (48 * 2 ^ g)) from (Int32.ofNat_mul 2 _).symm, pp]; congr 1; omega
    have q2 : 2 * Int32.ofNat (nC (300 + 2 * g)) = nI (nC (300 + 2 * (g + 1))) := by rw [nc, nc1, show 2 * Int32.ofNat (240 * 2 ^ g) = nI (2 * (240 * 2 ^ g)) from (Int32.ofNat_mul 2 _).symm, pp]; congr 1; omega
    rw [q1]
    refine a_callS (As := [.ref (301 + 2 * g), .int (nI (nC (301 + 2 * (g + 1))))]) (st := [.ref 110]) F (c_J7_copyOf_59c91 (xl X) I A J (301 + 2 * g) (301 + 2 * (g + 1)) ko mem.2 ko1 nin.2 (by omega) (by omega) (by omega) hC) ml_6_107 sm_yJ7_copyOf_59c91 (by decide) rfl dX6_insert_24 (Nat.le_of_ble_eq_true rfl) (by omega) (by omega) (hl_r (hB _ (by decide)) (hl_i (hl_l hl_nil))) (hs_r (hB _ (by decide)) hs_nil) ?_
    rintro _ _ _ ⟨rfl, rfl, rfl⟩ sub1
    refine a_putr F fl_6_22 rfl rfl (fun _ => rfl) (fun _ => rfl) (sub1 _ (hB _ (by decide))) rfl dX6_insert_27 ?_
    show WA X (mC (up2 P 110 4 (some (301 + 2 * (g + 1)))) O I (up1 A (301 + 2 * (g + 1)) (va_cpy (A (301 + 2 * g)) (fun _ => 0) 0 0 (nC (301 + 2 * g)))) J) _ _ _ _ _ _
    have hP1 : laP (up2 P 110 4 (some (301 + 2 * (g + 1)))) := fun a k hk => by
      by_cases c : a = 110
      · subst c
        by_cases c2 : k = 4
        · subst c2; exact absurd rfl hk
        · rw [up2_k c2]; exact hP 110 k hk
      · rw [up2_p c]; exact hP a k hk
    have m1 : 301 + 2 * (g + 1) ∈ pl ++ [301 + 2 * (g + 1)] := List.mem_append_right _ (List.mem_singleton.mpr rfl)
    have hC1 : clC (up2 P 110 4 (some (301 + 2 * (g + 1)))) O (pl ++ [301 + 2 * (g + 1)]) := (hC.row (by omega) (by omega)).put m1
    have hB9 := hB
    have hB : inB (pl ++ [301 + 2 * (g + 1)]) := fun q h => sub1 q (hB9 q h)
    refine r_6_insert_30 F (by omega) (by omega) hP1 hB (qc := 300 + 2 * g) (qo := 301 + 2 * (g + 1)) kc (sub1 _ mem.1) ((up2_k (by decide)).trans t3) ko1 m1 up2_s ?_
    rw [q2]
    have nin2 : 300 + 2 * (g + 1) ∉ pl ++ [301 + 2 * (g + 1)] := fun z => by
      rcases List.mem_append.mp z with z | z
      · exact nin.1 z
      · have := List.mem_singleton.mp z; omega
    refine a_callS (As := [.ref (300 + 2 * g), .int (nI (nC (300 + 2 * (g + 1))))]) (st := [.ref 110]) F (c_J7_copyOf_c38d5 (xl X) I _ J (300 + 2 * g) (300 + 2 * (g + 1)) kc (sub1 _ mem.1) kc1 nin2 (by omega) (by omega) (by omega) hC1) ml_6_113 sm_yJ7_copyOf_c38d5 (by decide) rfl dX6_insert_42 (Nat.le_of_ble_eq_true rfl) (by omega) (by omega) (hl_r (hB _ (by decide)) (hl_i (hl_l hl_nil))) (hs_r (hB _ (by decide)) hs_nil) ?_
    rintro _ _ _ ⟨rfl, rfl, rfl⟩ sub2
    refine a_putr F fl_6_19 rfl rfl (fun _ => rfl) (fun _ => rfl) (sub2 _ (hB _ (by decide))) rfl dX6_insert_45 ?_
    show WA X (mC (up2 (up2 P 110 4 (some (301 + 2 * (g + 1)))) 110 3 (some (300 + 2 * (g + 1)))) O I (up1 A (301 + 2 * (g + 1)) (va_cpy (A (301 + 2 * g)) (fun _ => 0) 0 0 (nC (301 + 2 * g)))) (up1 J (300 + 2 * (g + 1)) (va_cpy (J (300 + 2 * g)) (fun _ => 0) 0 0 (nC (300 + 2 * g))))) _ _ _ _ _ _
    have m2 : 300 + 2 * (g + 1) ∈ pl ++ [301 + 2 * (g + 1)] ++ [300 + 2 * (g + 1)] := List.mem_append_right _ (List.mem_singleton.mpr rfl)
    have only : ∀ q, q ∈ pl ++ [301 + 2 * (g + 1)] ++ [300 + 2 * (g + 1)] → q ∈ pl ∨ q = 301 + 2 * (g + 1) ∨ q = 300 + 2 * (g + 1) := fun q h => by
      rcases List.mem_append.mp h with h | h
      · rcases List.mem_append.mp h with h | h
        · exact Or.inl h
        · exact Or.inr (Or.inl (List.mem_singleton.mp h))
      · exact Or.inr (Or.inr (List.mem_singleton.mp h))
    refine fin _ _ _ _ _ _ (g + 1) (by rw [e1]; omega) (by rw [e1]; omega) (by rw [e1]) ⟨fun q k h => ?_, fun _ _ _ => rfl, fun q h => up1_p (by omega), fun q _ h => up1_p (by omega), fun q h => sub2 q (sub1 q h), fun q h => ?_⟩ ((hC1.row (by omega) (by omega)).put m2) ⟨g6, fun j hj => ⟨fun z => ?_, fun z => ⟨fun y => ?_, fun y => ?_⟩⟩⟩ up2_s ((up2_k (by decide)).trans up2_s) (by omega) ?_ (up1_p (by omega))
    · by_cases c : q = 110
      · subst c
        rw [up2_k (fun z => h ⟨rfl, Or.inl z⟩), up2_k (fun z => h ⟨rfl, Or.inr z⟩)]
      · rw [up2_p c, up2_p c]
    · rcases only q h with z | z | z
      · exact Or.inl z
      · right; omega
      · right; omega
    · by_cases c : j = g + 1
      · subst c; exact ⟨m2, sub2 _ m1⟩
      · have := (hM.2 j hj).1 (by omega); exact ⟨sub2 _ (sub1 _ this.1), sub2 _ (sub1 _ this.2)⟩
    · rcases only _ y with y | y | y
      · exact ((hM.2 j hj).2 (by omega)).1 y
      · omega
      · omega
    · rcases only _ y with y | y | y
      · exact ((hM.2 j hj).2 (by omega)).2 y
      · omega
      · omega
    · rw [up1_s, up1_s]
      refine tbR_cg tr (fun i hi => ?_) (fun i hi => ?_)
      · unfold va_cpy; rw [if_pos (by omega), show 0 + (i - 0) = i by omega]
      · unfold va_cpy; rw [if_pos (by omega), show 0 + (i - 0) = i by omega]
