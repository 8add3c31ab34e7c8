theorem lN_ltt {a b : Nat} (ha : a < 2 ^ 63) (hb : b < 2 ^ 63) : lN a < lN b ↔ a < b := by rw [Int64.lt_iff_toInt_lt, lN_ti ha, lN_ti hb]; omega
def pN (m cnt : Nat) (T : Nat → Nat → Nat) (x : Nat) : Nat := sumB (fun i => if x < key m (T i) then 1 else 0) 0 cnt
theorem su_fst {f : Nat → Nat} {p : Nat} : ∀ n, p ≤ n → (∀ i, i < n → f i = if i < p then 1 else 0) → sumB f 0 n = p
  | 0, hp, _ => by show 0 = p; omega
  | n + 1, hp, h => by
    show sumB f 0 n + f (0 + n) = p
    rw [Nat.zero_add, h n (by omega)]
    by_cases c : n < p
    · rw [if_pos c]
      have : sumB f 0 n = n := su_fst n (Nat.le_refl _) (fun i hi => by rw [h i (by omega), if_pos (by omega), if_pos hi])
      omega
    · rw [if_neg c, su_fst n (by omega) (fun i hi => h i (by omega))]; rfl
theorem pN_is {m cnt x p : Nat} {T : Nat → Nat → Nat} (h : plP m cnt T x p) : pN m cnt T x = p := by
  obtain ⟨h1, h2, h3, h4⟩ := h
  refine su_fst cnt h1 (fun i hi => ?_)
  by_cases c : i < p
  · rw [if_pos c, if_pos (h2 i c)]
  · rw [if_neg c, if_neg]
    by_cases e : i = p
    · subst e; have := h4 hi; omega
    · have := h3 i (by omega) hi; omega
def rc1 (m : Nat) (τ : TB) (B : Nat → Nat) (w : Nat) : TB := if pN m τ.2.1 τ.2.2.1 (key m B) < τ.2.1 ∧ key m (τ.2.2.1 (pN m τ.2.1 τ.2.2.1 (key m B))) = key m B then (τ.1, τ.2.1, τ.2.2.1, upT τ.2.2.2.1 (pN m τ.2.1 τ.2.2.1 (key m B)) (max (τ.2.2.2.1 (pN m τ.2.1 τ.2.2.1 (key m B))) w), τ.2.2.2.2) else insT τ (pN m τ.2.1 τ.2.2.1 (key m B)) B w
/-- what becomes of the table when a row of this weight is recorded -/
def recF (m : Nat) (τ : TB) (B : Nat → Nat) (w v : Nat) : TB := if v < τ.1 then τ else rc1 m (if τ.1 < v then (v, 0, τ.2.2.1, τ.2.2.2.1, τ.2.2.2.2) else τ) B w
theorem srt_in {m cnt p : Nat} {T : Nat → Nat → Nat} {B : Nat → Nat} (hs : srtT m cnt T) (h : plP m cnt T (key m B) p) (hn : p < cnt → key m (T p) ≠ key m B) : srtT m (cnt + 1) (inT T p B) := by
  obtain ⟨h1, h2, h3, h4⟩ := h
  have hi : ∀ i, p ≤ i → i < cnt → key m (T i) < key m B := fun i a b => by
    by_cases e : i = p
    · subst e; have := h4 b; have := hn b; omega
    · exact h3 i (by omega) b
  intro i j hij hj
  unfold inT
  rcases Nat.lt_trichotomy j p with c | c | c
  · rw [if_pos c, if_pos (show i < p by omega)]; exact hs i j hij (by omega)
  · rw [if_neg (show ¬ j < p by omega), if_pos c, if_pos (show i < p by omega)]; exact h2 i (by omega)
  · rw [if_neg (show ¬ j < p by omega), if_neg (show ¬ j = p by omega)]
    rcases Nat.lt_trichotomy i p with d | d | d
    · rw [if_pos d]; exact hs i (j - 1) (by omega) (by omega)
    · rw [if_neg (show ¬ i < p by omega), if_pos d]; exact hi (j - 1) (by omega) (by omega)
    · rw [if_neg (show ¬ i < p by omega), if_neg (show ¬ i = p by omega)]; exact hs (i - 1) (j - 1) (by omega) (by omega)
theorem tbR_up {R : Nat → Int32} {C : Nat → Int64} {m cnt p w : Nat} {o : Nat → Nat} {T : Nat → Nat → Nat} {W : Nat → Nat} (h : tbR R C m cnt o T W) (hp : p < cnt) (hw : w < 2 ^ 40) : tbR R (vp_updL C (5 * o p + 4) (lN w)) m cnt o T (upT W p w) := by
  obtain ⟨a1, a2, a3, a4⟩ := h
  refine ⟨a1, a2, fun i hi => ⟨(a3 i hi).1, fun k hk => ?_⟩, fun i hi => ?_⟩
  · show vp_updL C (5 * o p + 4) (lN w) (5 * o i + k) = _
    rw [updL_out (by omega)]; exact (a3 i hi).2 k hk
  · unfold upT
    by_cases c : i = p
    · subst c; rw [if_pos rfl, updL_in]; exact ⟨hw, rfl⟩
    · rw [if_neg c, updL_out (fun z => c (a2 i p hi hp (by omega)))]; exact a4 i hi
theorem tbS_j {P : Nat → Nat → Option Nat} {I A : Nat → Nat → Int32} {J J' : Nat → Nat → Int64} {pl : List Nat} {m : Nat} {τ : TB} (h : tbS P I A J pl m τ) (hj : ∀ q, q ≠ 111 → J' q = J q) : tbS P I A J' pl m τ := by
  unfold tbS; rw [hj _ (by omega)]; exact h

theorem r_6_record_0 {X : Ctx} {mc ms k1 k2 : Nat} (F : Fx X cX6_record RX6 6 3 mc ms) (hk1 : k1 ≤ mc) (hk2 : k2 ≤ ms) {Φ : Option Value → HS → List Nat → Prop} (E : Ex X none mc ms Φ) {P O : Nat → Nat → Option Nat} (hP : laP P) {I A : Nat → Nat → Int32} {J : Nat → Nat → Int64} {pl : List Nat} (hB : inB pl) {qc qo : Nat} (hk_qc : kC qc = 14) (hp_qc : qc ∈ pl) (hc9 : P 110 3 = some qc) (hk_qo : kC qo = 13) (hp_qo : qo ∈ pl) (ho9 : P 110 4 = some qo) {x3 : Int32} {y1 : Int64}
    (e_1 : ((I 110 5) ≤ x3) → (x3 ≤ (I 110 5)) → WA X (mC P O I A J) pl k1 k2 27 [(0, .ref 110), (1, .long y1), (3, .int x3)] [])
    (e_2 : ((I 110 5) ≤ x3) → (¬ (x3 ≤ (I 110 5))) → WA X (mC P O (up2 (up2 I 110 5 x3) 110 7 0) A J) pl k1 k2 27 [(0, .ref 110), (1, .long y1), (3, .int x3)] [])
    (e_3 : (¬ ((I 110 5) ≤ x3)) → Φ none (mC P O I A J) pl) :
    WA X (mC P O I A J) pl k1 k2 0 [(0, .ref 110), (1, .long y1), (3, .int x3)] [] := by
  refine a_iload_n F 2 dX6_record_0 rfl rfl ?_
  refine a_aload_n F 0 dX6_record_1 rfl rfl ?_
  refine a_geti F fl_6_34 rfl (hB _ (by decide)) rfl dX6_record_2 ?_
  refine a_icmp_ge (tgt := 9) F dX6_record_5 (by decide) (fun (c_1 : (I 110 5) ≤ x3) => ?_) (fun (c_1 : ¬ ((I 110 5) ≤ x3)) => ?_)
  · refine a_iload_n F 2 dX6_record_9 rfl rfl ?_
    refine a_aload_n F 0 dX6_record_10 rfl rfl ?_
    refine a_geti F fl_6_34 rfl (hB _ (by decide)) rfl dX6_record_11 ?_
    refine a_icmp_le (tgt := 27) F dX6_record_14 (by decide) (fun (c_2 : x3 ≤ (I 110 5)) => ?_) (fun (c_2 : ¬ (x3 ≤ (I 110 5))) => ?_)
    · exact e_1 c_1 c_2
    · refine a_aload_n F 0 dX6_record_17 rfl rfl ?_
      refine a_iload_n F 2 dX6_record_18 rfl rfl ?_
      refine a_puti F fl_6_34 rfl rfl rfl rfl (hB _ (by decide)) rfl dX6_record_19 ?_
      refine a_aload_n F 0 dX6_record_22 rfl rfl ?_
      refine a_iconst (v := 0) F dX6_record_23 (by decide) ?_
      refine a_puti F fl_6_30 rfl rfl rfl rfl (hB _ (by decide)) rfl dX6_record_24 ?_
      exact e_2 c_1 c_2
  · exact a_vret F E dX6_record_8 hk1 hk2 (e_3 c_1)

theorem r_6_record_27 {X : Ctx} {mc ms k1 k2 : Nat} (F : Fx X cX6_record RX6 6 3 mc ms) (hk1 : k1 ≤ mc) (hk2 : k2 ≤ ms) {P O : Nat → Nat → Option Nat} (hP : laP P) {I A : Nat → Nat → Int32} {J : Nat → Nat → Int64} {pl : List Nat} (hB : inB pl) {qc qo : Nat} (hk_qc : kC qc = 14) (hp_qc : qc ∈ pl) (hc9 : P 110 3 = some qc) (hk_qo : kC qo = 13) (hp_qo : qo ∈ pl) (ho9 : P 110 4 = some qo) {x3 : Int32} {y1 : Int64}
    (e_1 : WA X (mC P O I A J) pl k1 k2 28 [(0, .ref 110), (1, .long y1), (3, .int x3)] [.ref 110]) :
    WA X (mC P O I A J) pl k1 k2 27 [(0, .ref 110), (1, .long y1), (3, .int x3)] [] := by
  refine a_aload_n F 0 dX6_record_27 rfl rfl ?_
  exact e_1

theorem r_6_record_31 {X : Ctx} {mc ms k1 k2 : Nat} (F : Fx X cX6_record RX6 6 3 mc ms) (hk1 : k1 ≤ mc) (hk2 : k2 ≤ ms) {P O : Nat → Nat → Option Nat} (hP : laP P) {I A : Nat → Nat → Int32} {J : Nat → Nat → Int64} {pl : List Nat} (hB : inB pl) {qc qo : Nat} (hk_qc : kC qc = 14) (hp_qc : qc ∈ pl) (hc9 : P 110 3 = some qc) (hk_qo : kC qo = 13) (hp_qo : qo ∈ pl) (ho9 : P 110 4 = some qo) {x3 : Int32} {y1 : Int64}
    (e_1 : WA X (mC P O I A J) pl k1 k2 32 [(0, .ref 110), (1, .long y1), (3, .int x3)] [.ref 110]) :
    WA X (mC P O I A J) pl k1 k2 31 [(0, .ref 110), (1, .long y1), (3, .int x3)] [] := by
  refine a_aload_n F 0 dX6_record_31 rfl rfl ?_
  exact e_1

theorem r_6_record_35 {X : Ctx} {mc ms k1 k2 : Nat} (F : Fx X cX6_record RX6 6 3 mc ms) (hk1 : k1 ≤ mc) (hk2 : k2 ≤ ms) {P O : Nat → Nat → Option Nat} (hP : laP P) {I A : Nat → Nat → Int32} {J : Nat → Nat → Int64} {pl : List Nat} (hB : inB pl) {qc qo : Nat} (hk_qc : kC qc = 14) (hp_qc : qc ∈ pl) (hc9 : P 110 3 = some qc) (hk_qo : kC qo = 13) (hp_qo : qo ∈ pl) (ho9 : P 110 4 = some qo) {x3 x9 : Int32} {y1 : Int64}
    (e_1 : ((I 110 7) ≤ x9) → WA X (mC P O I A J) pl k1 k2 98 [(4, .int x9), (0, .ref 110), (1, .long y1), (3, .int x3)] [.long y1, .int x9, .ref 110])
    (o_2 : (¬ ((I 110 7) ≤ x9)) → vp_in x9 (nC qo))
    (e_3 : (¬ ((I 110 7) ≤ x9)) → WA X (mC P O I A J) pl k1 k2 54 [(4, .int x9), (0, .ref 110), (1, .long y1), (3, .int x3)] [.int (A qo x9.toNatClampNeg), .ref 110]) :
    WA X (mC P O I A J) pl k1 k2 35 [(0, .ref 110), (1, .long y1), (3, .int x3)] [.int x9] := by
  refine a_istore F dX6_record_35 (by decide) rfl ?_
  refine a_iload F 0 dX6_record_37 rfl ?_
  refine a_aload_n F 1 dX6_record_39 rfl rfl ?_
  refine a_geti F fl_6_30 rfl (hB _ (by decide)) rfl dX6_record_40 ?_
  refine a_icmp_ge (tgt := 94) F dX6_record_43 (by decide) (fun (c_3 : (I 110 7) ≤ x9) => ?_) (fun (c_3 : ¬ ((I 110 7) ≤ x9)) => ?_)
  · refine a_aload_n F 1 dX6_record_94 rfl rfl ?_
    refine a_iload F 0 dX6_record_95 rfl ?_
    refine a_lload_n F 2 dX6_record_97 rfl rfl ?_
    exact e_1 c_3
  · refine a_aload_n F 1 dX6_record_46 rfl rfl ?_
    refine a_aload_n F 1 dX6_record_47 rfl rfl ?_
    refine a_getr (b := qo) F fl_6_22 rfl (hB _ (by decide)) rfl ho9 dX6_record_48 ?_
    refine a_iload F 0 dX6_record_51 rfl ?_
    refine a_iald F (hp_qo) hk_qo (o_2 c_3) dX6_record_53 ?_
    exact e_3 c_3

theorem r_6_record_57 {X : Ctx} {mc ms k1 k2 : Nat} (F : Fx X cX6_record RX6 6 3 mc ms) (hk1 : k1 ≤ mc) (hk2 : k2 ≤ ms) {Φ : Option Value → HS → List Nat → Prop} (E : Ex X none mc ms Φ) {P O : Nat → Nat → Option Nat} (hP : laP P) {I A : Nat → Nat → Int32} {J : Nat → Nat → Int64} {pl : List Nat} (hB : inB pl) {qc qo : Nat} (hk_qc : kC qc = 14) (hp_qc : qc ∈ pl) (hc9 : P 110 3 = some qc) (hk_qo : kC qo = 13) (hp_qo : qo ∈ pl) (ho9 : P 110 4 = some qo) {x3 x4 x9 : Int32} {y1 : Int64}
    (e_1 : (¬ x9 = 0) → WA X (mC P O I A J) pl k1 k2 98 [(0, .ref 110), (1, .long y1), (3, .int x3), (4, .int x4)] [.long y1, .int x4, .ref 110])
    (o_2 : (x9 = 0) → vp_in x4 (nC qo))
    (o_3 : (x9 = 0) → vp_in (((A qo x4.toNatClampNeg) * 5) + 4) (nC qc))
    (o_4 : (x9 = 0) → vp_in (((A qo x4.toNatClampNeg) * 5) + 4) (nC qc))
    (e_5 : (x9 = 0) → Φ none (mC P O I A (up1 J qc (vp_updL (J qc) (((A qo x4.toNatClampNeg) * 5) + 4).toNatClampNeg (if y1 < (J qc (((A qo x4.toNatClampNeg) * 5) + 4).toNatClampNeg) then (J qc (((A qo x4.toNatClampNeg) * 5) + 4).toNatClampNeg) else y1)))) pl) :
    WA X (mC P O I A J) pl k1 k2 57 [(0, .ref 110), (1, .long y1), (3, .int x3), (4, .int x4)] [.int x9] := by
  refine a_if_ne (tgt := 94) F dX6_record_57 (by decide) (fun (c_4 : ¬ x9 = 0) => ?_) (fun (c_4 : x9 = 0) => ?_)
  · refine a_aload_n F 0 dX6_record_94 rfl rfl ?_
    refine a_iload F 3 dX6_record_95 rfl ?_
    refine a_lload_n F 1 dX6_record_97 rfl rfl ?_
    exact e_1 c_4
  · refine a_aload_n F 0 dX6_record_60 rfl rfl ?_
    refine a_getr (b := qo) F fl_6_22 rfl (hB _ (by decide)) rfl ho9 dX6_record_61 ?_
    refine a_iload F 3 dX6_record_64 rfl ?_
    refine a_iald F (hp_qo) hk_qo (o_2 c_4) dX6_record_66 ?_
    refine a_iconst (v := 5) F dX6_record_67 (by decide) ?_
    refine a_imul F dX6_record_68 ?_
    refine a_iconst (v := 4) F dX6_record_69 (by decide) ?_
    refine a_iadd F dX6_record_70 ?_
    refine a_istore F dX6_record_71 (by decide) rfl ?_
    refine a_aload_n F 1 dX6_record_73 rfl rfl ?_
    refine a_getr (b := qc) F fl_6_19 rfl (hB _ (by decide)) rfl hc9 dX6_record_74 ?_
    refine a_iload F 0 dX6_record_77 rfl ?_
    refine a_aload_n F 1 dX6_record_79 rfl rfl ?_
    refine a_getr (b := qc) F fl_6_19 rfl (hB _ (by decide)) rfl hc9 dX6_record_80 ?_
    refine a_iload F 0 dX6_record_83 rfl ?_
    refine a_lald F (hp_qc) hk_qc (o_3 c_4) dX6_record_85 ?_
    refine a_lload_n F 2 dX6_record_86 rfl rfl ?_
    refine a_mmaxl F mll_6_100 (by decide) hk1 hk2 (Nat.le_of_ble_eq_true rfl) dX6_record_87 ?_
    refine a_last F (hp_qc) hk_qc (o_4 c_4) dX6_record_90 ?_
    refine a_goto (tgt := 101) F dX6_record_91 (by decide) ?_
    exact a_vret F E dX6_record_101 hk1 hk2 (e_5 c_4)

theorem r_6_record_101 {X : Ctx} {mc ms k1 k2 : Nat} (F : Fx X cX6_record RX6 6 3 mc ms) (hk1 : k1 ≤ mc) (hk2 : k2 ≤ ms) {Φ : Option Value → HS → List Nat → Prop} (E : Ex X none mc ms Φ) {P O : Nat → Nat → Option Nat} (hP : laP P) {I A : Nat → Nat → Int32} {J : Nat → Nat → Int64} {pl : List Nat} (hB : inB pl) {qc qo : Nat} (hk_qc : kC qc = 14) (hp_qc : qc ∈ pl) (hc9 : P 110 3 = some qc) (hk_qo : kC qo = 13) (hp_qo : qo ∈ pl) (ho9 : P 110 4 = some qo) {x3 x4 : Int32} {y1 : Int64}
    (e_1 : Φ none (mC P O I A J) pl) :
    WA X (mC P O I A J) pl k1 k2 101 [(0, .ref 110), (1, .long y1), (3, .int x3), (4, .int x4)] [] := by
  exact a_vret F E dX6_record_101 hk1 hk2 (e_1)

set_option maxRecDepth 100000 in
theorem c_6_record (l : Launch) {P O : Nat → Nat → Option Nat} (hP : laP P) (I A : Nat → Nat → Int32) (J : Nat → Nat → Int64) {pl : List Nat} (hB : inB pl) (m w v : Nat) (B : Nat → Nat) (τ : TB) (hm : m ≤ 1) (hC : clC P O pl) (ht : tbS P I A J pl m τ) (hb : bdR (A 131) 0 B) (hd : dgB B) (hw : w < 2 ^ 40) (hv : v ≤ 100) (hwt : τ.1 ≤ 100) (hc : (recF m τ B w v).2.1 ≤ 3072) : Con l 3 yX6_record cX6_record 6 none [.ref 110, .long (lN w), .int (nI v)] (mC P O I A J) pl (2 * ((recF m τ B w v).2.2.2.2 - τ.2.2.2.2)) (576 * (2 ^ (recF m τ B w v).2.2.2.2 - 2 ^ τ.2.2.2.2)) (inQ P O I A J pl m (recF m τ B w v)) := by
  refine Con.of (by decide) (Nat.le_of_ble_eq_true rfl) (fun X hX9 hn9 F E => ?_)
  have mid : ∀ (I1 : Nat → Nat → Int32) (wt cnt : Nat) (T : Nat → Nat → Nat) (W : Nat → Nat) (g : Nat), g = τ.2.2.2.2 → frX P I A J pl P I1 A J pl → tbS P I1 A J pl m (wt, cnt, T, W, g) → recF m τ B w v = rc1 m (wt, cnt, T, W, g) B w → WA X (mC P O I1 A J) pl 0 0 27 [(0, .ref 110), (1, .long (lN w)), (3, .int (nI v))] [] := by
    intro I1 wt cnt T W g eg fx ht1 er
    rw [er] at hc
    have F : Fx X cX6_record RX6 6 3 (2 * ((rc1 m (wt, cnt, T, W, g) B w).2.2.2.2 - g)) (576 * (2 ^ (rc1 m (wt, cnt, T, W, g) B w).2.2.2.2 - 2 ^ g)) := by rw [← er, eg]; exact F
    have E : Ex X none (2 * ((rc1 m (wt, cnt, T, W, g) B w).2.2.2.2 - g)) (576 * (2 ^ (rc1 m (wt, cnt, T, W, g) B w).2.2.2.2 - 2 ^ g)) (inQ P O I A J pl m (rc1 m (wt, cnt, T, W, g) B w)) := by rw [← er, eg]; exact E
    have ht0 := ht1
    obtain ⟨hM, t3, t4, t5, t6, t7, tc, ts, o, tr⟩ := ht1
    dsimp only at hM t3 t4 t5 t6 t7 tc ts tr
    have hg := hM.1
    obtain ⟨kc, ko, nc, no⟩ := kR g (by omega)
    have p2 : 2 ^ g ≤ 64 := Nat.pow_le_pow_right (n := 2) (by decide) hg
    have mem := (hM.2 g hg).1 (Nat.le_refl _)
    refine r_6_record_27 F (Nat.zero_le _) (Nat.zero_le _) hP hB kc mem.1 t3 ko mem.2 t4 ?_
    refine a_callV (b := 110) (As := []) (st := []) (ci := 6) F (c_6_makeKey (xl X) hP I1 A J hB kc mem.1 t3 ko mem.2 t4 m B hm t6 hb hd) ml_6_89 im_yX6_makeKey se_yX6_makeKey (by decide) (by decide) rfl (hB _ (by decide)) rfl rfl dX6_record_28 (by decide) (by omega) (by omega) (hl_r (hB _ (by decide)) (hl_l (hl_i hl_nil))) hs_nil ?_
    rintro _ _ _ ⟨rfl, rfl, J1, rfl, j1, j2⟩ _
    refine r_6_record_31 F (Nat.zero_le _) (Nat.zero_le _) hP hB kc mem.1 t3 ko mem.2 t4 ?_
    have jc : J1 (300 + 2 * g) = J (300 + 2 * g) := j1 _ (by omega)
    have tr1 : tbR (A (301 + 2 * g)) (J1 (300 + 2 * g)) m cnt o T W := by rw [jc]; exact tr
    have fx1 : frX P I A J pl P I1 A J1 pl := fx.tr ⟨fun _ _ _ => rfl, fun _ _ _ => rfl, fun _ _ => rfl, fun q h _ => j1 q h, fun _ h => h, fun _ h => Or.inl h⟩
    refine a_callV (b := 110) (As := []) (st := []) (ci := 6) F (c_6_placeOfKey (xl X) hP I1 A J1 hB kc mem.1 t3 ko mem.2 t4 m cnt o T W B hm (by omega) (by omega) (by omega) t7 tr1 ts hd j2) ml_6_92 im_yX6_placeOfKey se_yX6_placeOfKey (by decide) (by decide) rfl (hB _ (by decide)) rfl rfl dX6_record_32 (by decide) (by omega) (by omega) (hl_r (hB _ (by decide)) (hl_l (hl_i hl_nil))) hs_nil ?_
    rintro _ _ _ ⟨rfl, rfl, p, rfl, hp⟩ _
    have ep := pN_is hp
    have hpc := hp.1
    have ins : ¬ (p < cnt ∧ key m (T p) = key m B) → WA X (mC P O I1 A J1) pl 0 0 98 [(0, .ref 110), (1, .long (lN w)), (3, .int (nI v)), (4, .int (nI p))] [.long (lN w), .int (nI p), .ref 110] := fun hne => by
      have e : rc1 m (wt, cnt, T, W, g) B w = insT (wt, cnt, T, W, g) p B w := by
        unfold rc1
        show (if pN m cnt T (key m B) < cnt ∧ key m (T (pN m cnt T (key m B))) = key m B then _ else insT (wt, cnt, T, W, g) (pN m cnt T (key m B)) B w) = _
        rw [ep, if_neg hne]
      rw [e] at F E hc
      have F : Fx X cX6_record RX6 6 3 (2 * (g + gwN (wt, cnt, T, W, g) - g)) (576 * (2 ^ (g + gwN (wt, cnt, T, W, g)) - 2 ^ g)) := F
      have E : Ex X none (2 * (g + gwN (wt, cnt, T, W, g) - g)) (576 * (2 ^ (g + gwN (wt, cnt, T, W, g)) - 2 ^ g)) (inQ P O I A J pl m (insT (wt, cnt, T, W, g) p B w)) := E
      have hc : cnt + 1 ≤ 3072 := hc
      have cost : 576 * 2 ^ g * gwN (wt, cnt, T, W, g) ≤ 576 * (2 ^ (g + gwN (wt, cnt, T, W, g)) - 2 ^ g) := by
        rcases (show gwN (wt, cnt, T, W, g) = 0 ∨ gwN (wt, cnt, T, W, g) = 1 by unfold gwN; split <;> omega) with z | z <;> rw [z]
        · omega
        · rw [Nat.pow_succ]; omega
      refine a_callV (b := 110) (As := [.int (nI p), .long (lN w)]) (st := []) (ci := 6) F (c_6_insert (xl X) hP I1 A J1 hB m p w B (wt, cnt, T, W, g) hC (tbS_j ht0 j1) hpc (show cnt < 3072 by omega) hd j2 hw (srt_in ts hp (fun a b => hne ⟨a, b⟩))) ml_6_103 im_yX6_insert se_yX6_insert (by decide) (by decide) rfl (hB _ (by decide)) rfl rfl dX6_record_98 (by decide) (by omega) (by show 0 + 576 * 2 ^ g * gwN (wt, cnt, T, W, g) ≤ _; omega) (hl_r (hB _ (by decide)) (hl_l (hl_i (hl_i hl_nil)))) hs_nil ?_
      rintro _ _ pl2 ⟨rfl, P2, I2, A2, J2, rfl, fx2, c2, tb2⟩ _
      have hg2 := tb2.1.1
      obtain ⟨kc2, ko2, -, -⟩ := kR _ (show (insT (wt, cnt, T, W, g) p B w).2.2.2.2 < 8 by omega)
      have mem2 := (tb2.1.2 _ tb2.1.1).1 (Nat.le_refl _)
      exact r_6_record_101 F (by omega) (by show 0 + 576 * 2 ^ g * gwN (wt, cnt, T, W, g) ≤ _; omega) E (fx2.la hP) (fx2.b hB) kc2 mem2.1 tb2.2.1 ko2 mem2.2 tb2.2.2.1 ⟨rfl, P2, I2, A2, J2, rfl, fx1.tr fx2, c2, tb2⟩
    have le : (I1 110 7 ≤ nI p) ↔ cnt ≤ p := by rw [t7]; exact nI_leI (by omega) (by omega)
    refine r_6_record_35 F (Nat.zero_le _) (Nat.zero_le _) hP hB kc mem.1 t3 ko mem.2 t4 (fun z => ?_) (fun z => ?_) (fun z => ?_)
    · refine a_sub [1, 2, 3, 0] rfl ?_
      exact ins (fun y => by have := le.mp z; omega)
    · have := mt le.mpr z; rw [no]; exact vp_in_nI (by omega) (by omega)
    · have lc : p < cnt := by have := mt le.mpr z; omega
      have vp : vp_in (nI p) (nC (301 + 2 * g)) := by rw [no]; exact vp_in_nI (by omega) (by omega)
      have op := tr1.1 p lc
      rw [nI_clamp (by omega), op.1]
      refine a_callV (b := 110) (As := [.int (nI (o p))]) (st := []) (ci := 6) F (c_6_compareKey (xl X) hP I1 A J1 hB kc mem.1 t3 ko mem.2 t4 m (o p) B (T p) hm (by omega) (by omega) hd (tr1.2.2.1 p lc).1 j2 (tr1.2.2.1 p lc).2) ml_6_96 im_yX6_compareKey se_yX6_compareKey (by decide) (by decide) rfl (hB _ (by decide)) rfl rfl dX6_record_54 (by decide) (by omega) (by omega) (hl_i (hl_r (hB _ (by decide)) (hl_l (hl_i hl_nil)))) hs_nil ?_
      rintro _ _ _ ⟨rfl, rfl, rfl⟩ _
      refine a_sub [1, 2, 3, 0] rfl ?_
      have e4 : A (301 + 2 * g) (nI p).toNatClampNeg * 5 + 4 = nI (5 * o p + 4) := by
        rw [nI_clamp (by omega), op.1, show nI (o p) * 5 = nI (o p * 5) from (Int32.ofNat_mul (o p) 5).symm, Nat.mul_comm]; exact nI_add _ 4
      have v4 : vp_in (nI (5 * o p + 4)) (nC (300 + 2 * g)) := vp_in_nI (by omega) (by omega)
      refine r_6_record_57 F (Nat.zero_le _) (Nat.zero_le _) E hP hB kc mem.1 t3 ko mem.2 t4 (fun z => ?_) (fun _ => vp) (fun _ => by rw [e4]; exact v4) (fun _ => by rw [e4]; exact v4) (fun z => ?_)
      · refine ins (fun y => z ?_)
        unfold cmK; rw [y.2, if_neg (Nat.lt_irrefl _), if_neg (Nat.lt_irrefl _)]
      · have ek : key m (T p) = key m B := by
          unfold cmK at z
          by_cases a : key m (T p) < key m B
          · rw [if_pos a] at z; exact absurd z (by decide)
          · rw [if_neg a] at z
            by_cases b : key m B < key m (T p)
            · rw [if_pos b] at z; exact absurd z (by decide)
            · omega
        have e : rc1 m (wt, cnt, T, W, g) B w = (wt, cnt, T, upT W p (max (W p) w), g) := by
          unfold rc1
          show (if pN m cnt T (key m B) < cnt ∧ key m (T (pN m cnt T (key m B))) = key m B then (wt, cnt, T, upT W (pN m cnt T (key m B)) (max (W (pN m cnt T (key m B))) w), g) else _) = _
          rw [ep, if_pos ⟨lc, ek⟩]
        have wp := tr1.2.2.2 p lc
        rw [e4, nI_clamp (by omega), wp.2, e]
        have em : (if lN w < lN (W p) then lN (W p) else lN w) = lN (max (W p) w) := by
          by_cases y : w < W p
          · rw [if_pos ((lN_ltt (by omega) (by omega)).mpr y), show max (W p) w = W p by omega]
          · rw [if_neg (fun h => y ((lN_ltt (by omega) (by omega)).mp h)), show max (W p) w = w by omega]
        rw [em]
        refine ⟨rfl, P, I1, A, _, rfl, fx1.tr ⟨fun _ _ _ => rfl, fun _ _ _ => rfl, fun _ _ => rfl, fun q _ h => up1_p (by omega), fun _ h => h, fun _ h => Or.inl h⟩, hC, hM, t3, t4, t5, t6, t7, tc, ts, o, ?_⟩
        show tbR (A (301 + 2 * g)) (up1 J1 (300 + 2 * g) _ (300 + 2 * g)) m cnt o T _
        rw [up1_s]
        exact tbR_up tr1 lc (by omega)
  have hg := ht.1.1
  obtain ⟨kc, ko, -, -⟩ := kR τ.2.2.2.2 (by omega)
  have mem := (ht.1.2 _ hg).1 (Nat.le_refl _)
  have t5 := ht.2.2.2.1
  have i1 : (I 110 5 ≤ nI v) ↔ τ.1 ≤ v := by rw [t5]; exact nI_leI (by omega) (by omega)
  have i2 : (nI v ≤ I 110 5) ↔ v ≤ τ.1 := by rw [t5]; exact nI_leI (by omega) (by omega)
  refine r_6_record_0 F (Nat.zero_le _) (Nat.zero_le _) E hP hB kc mem.1 ht.2.1 ko mem.2 ht.2.2.1 (fun z y => ?_) (fun z y => ?_) (fun z => ?_)
  · have := i1.mp z
    have := i2.mp y
    exact mid I τ.1 τ.2.1 τ.2.2.1 τ.2.2.2.1 τ.2.2.2.2 rfl (frX.rf P I A J pl) ht (by unfold recF; rw [if_neg (by omega), if_neg (by omega)])
  · have := i1.mp z
    have := mt i2.mpr y
    refine mid _ v 0 τ.2.2.1 τ.2.2.2.1 τ.2.2.2.2 rfl ⟨fun _ _ _ => rfl, fun q k h => ?_, fun _ _ => rfl, fun _ _ _ => rfl, fun _ h => h, fun _ h => Or.inl h⟩ ⟨ht.1, ht.2.1, ht.2.2.1, ?_, ?_, ?_, Nat.zero_le _, fun i j _ h => (Nat.not_lt_zero _ h).elim, fun _ => 0, fun i h => (Nat.not_lt_zero _ h).elim, fun i j h => (Nat.not_lt_zero _ h).elim, fun i h => (Nat.not_lt_zero _ h).elim, fun i h => (Nat.not_lt_zero _ h).elim⟩ (by unfold recF; rw [if_neg (by omega), if_pos (by omega)])
    · by_cases c : q = 110
      · subst c; rw [up2_k (fun z => h ⟨rfl, by omega, by omega⟩), up2_k (fun z => h ⟨rfl, by omega, by omega⟩)]
      · rw [up2_p c, up2_p c]
    · exact (up2_k (by decide)).trans up2_s
    · exact (up2_k (by decide)).trans ((up2_k (by decide)).trans ht.2.2.2.2.1)
    · exact up2_s
  · have : v < τ.1 := by have := mt i1.mpr z; omega
    have e : recF m τ B w v = τ := by unfold recF; rw [if_pos this]
    rw [e]
    exact ⟨rfl, P, I, A, J, rfl, frX.rf P I A J pl, hC, ht⟩
