theorem i2l_n {n : Nat} (h : n < 2 ^ 31) : (nI n).toInt64 = lN n := by
  apply Int64.toInt_inj.mp
  rw [Int32.toInt_toInt64, lN_ti (by omega)]
  exact Int32.toInt_ofNat_of_lt h
theorem wm_sh : ∀ n, n < 4 → ((((10 * (3 - nI n)) : Int32)).toInt64 &&& 63) = ((nI (10 * (3 - n))).toInt64 &&& 63) := by decide

set_option maxRecDepth 10000 in
theorem c_6_withMove (l : Launch) {P O : Nat → Nat → Option Nat} (hP : laP P) (I A : Nat → Nat → Int32) (J : Nat → Nat → Int64) {pl : List Nat} (hB : inB pl) (w n f t : Nat) (hn : n < 4) (hw : wOK n w) (hc : 32 * f + t < 1024) : Con l 1 yX6_withMove cX6_withMove 7 (some .long) [.long (lN w), .int (nI n), .int (nI f), .int (nI t)] (mC P O I A J) pl 0 0 (PC (some (.long (lN (w + (32 * f + t) * 1024 ^ (3 - n))))) P O I A J pl) := by
  refine Con.of (by decide) (Nat.le_of_ble_eq_true rfl) (fun X hX9 hn9 F E => ?_)
  have e1 : (32 : Int32) * nI f + nI t = nI (32 * f + t) := by rw [show (32 : Int32) * nI f = nI (32 * f) from (Int32.ofNat_mul 32 f).symm, nI_add]
  have e2 : (2 : Nat) ^ (10 * (3 - n)) = 1024 ^ (3 - n) := by rw [Nat.pow_mul]
  have e3 : (2 : Nat) ^ (10 * (4 - n)) = 1024 ^ (4 - n) := by rw [Nat.pow_mul]
  have e4 : 1024 ^ (4 - n) = 1024 * 1024 ^ (3 - n) := by rw [show 4 - n = (3 - n) + 1 by omega, Nat.pow_succ, Nat.mul_comm]
  refine r_6_withMove_0 F E hP hB ?_
  rw [e1, wm_sh n hn, i2l_n (by omega), wb_shl _ (k := 10 * (3 - n)) (by omega), e2]
  have hp : 0 < 1024 ^ (3 - n) := Nat.pow_pos (by decide)
  have ha : (32 * f + t) * 1024 ^ (3 - n) < 1024 ^ (4 - n) := by rw [e4]; exact Nat.mul_lt_mul_of_pos_right hc hp
  have hdv : w = w / 1024 ^ (4 - n) * 1024 ^ (4 - n) := by have := Nat.div_add_mod w (1024 ^ (4 - n)); rw [hw.2, Nat.add_zero, Nat.mul_comm] at this; exact this.symm
  have hlt : w + (32 * f + t) * 1024 ^ (3 - n) < 2 ^ 64 := by
    have h1 : w < 1024 ^ 4 := hw.1
    have h2 : 1024 ^ (4 - n) ≤ 1024 ^ 4 := Nat.pow_le_pow_right (by decide) (by omega)
    have h3 : (1024 : Nat) ^ 4 + 1024 ^ 4 ≤ 2 ^ 64 := by decide
    omega
  have := g_or (k := 10 * (4 - n)) (b := w / 1024 ^ (4 - n)) e3 ha (by rw [← hdv]; exact hlt)
  rw [← hdv] at this
  rw [this]; exact ⟨rfl, rfl, rfl⟩

def frZ (P : Nat → Nat → Option Nat) (I A : Nat → Nat → Int32) (J : Nat → Nat → Int64) (pl : List Nat) (P' : Nat → Nat → Option Nat) (I' A' : Nat → Nat → Int32) (J' : Nat → Nat → Int64) (pl' : List Nat) : Prop := (∀ q k, ¬ (q = 110 ∧ (k = 3 ∨ k = 4)) → P' q k = P q k) ∧ (∀ q k, ¬ (q = 110 ∧ 5 ≤ k ∧ k ≤ 7) → I' q k = I q k) ∧ (∀ q, q ≠ 131 → q < 300 ∨ 314 ≤ q → A' q = A q) ∧ (∀ q, q ≠ 111 → q < 300 ∨ 314 ≤ q → J' q = J q) ∧ (∀ q, q ∈ pl → q ∈ pl') ∧ (∀ q, q ∈ pl' → q ∈ pl ∨ (300 ≤ q ∧ q < 314))
theorem frX.y {P P' : Nat → Nat → Option Nat} {I A I' A' : Nat → Nat → Int32} {J J' : Nat → Nat → Int64} {pl pl' : List Nat} (h : frX P I A J pl P' I' A' J' pl') : frZ P I A J pl P' I' A' J' pl' := ⟨h.1, h.2.1, fun q _ z => h.2.2.1 q z, h.2.2.2⟩
theorem frZ.rf (P : Nat → Nat → Option Nat) (I A : Nat → Nat → Int32) (J : Nat → Nat → Int64) (pl : List Nat) : frZ P I A J pl P I A J pl := (frX.rf P I A J pl).y
theorem frZ.tr {P P' P2 : Nat → Nat → Option Nat} {I A I' A' I2 A2 : Nat → Nat → Int32} {J J' J2 : Nat → Nat → Int64} {pl pl' pl2 : List Nat} (h : frZ P I A J pl P' I' A' J' pl') (h2 : frZ P' I' A' J' pl' P2 I2 A2 J2 pl2) : frZ P I A J pl P2 I2 A2 J2 pl2 :=
  ⟨fun q k z => (h2.1 q k z).trans (h.1 q k z), fun q k z => (h2.2.1 q k z).trans (h.2.1 q k z), fun q y z => (h2.2.2.1 q y z).trans (h.2.2.1 q y z), fun q y z => (h2.2.2.2.1 q y z).trans (h.2.2.2.1 q y z), fun q z => h2.2.2.2.2.1 q (h.2.2.2.2.1 q z), fun q z => (h2.2.2.2.2.2 q z).elim (h.2.2.2.2.2 q) Or.inr⟩
theorem frZ.la {P P' : Nat → Nat → Option Nat} {I A I' A' : Nat → Nat → Int32} {J J' : Nat → Nat → Int64} {pl pl' : List Nat} (h : frZ P I A J pl P' I' A' J' pl') (hP : laP P) : laP P' := fun p k hk => by
  rw [h.1 p k (fun z => by
    obtain ⟨rfl, rfl | rfl⟩ := z
    · exact hk rfl
    · exact hk rfl)]
  exact hP p k hk
theorem frZ.b {P P' : Nat → Nat → Option Nat} {I A I' A' : Nat → Nat → Int32} {J J' : Nat → Nat → Int64} {pl pl' : List Nat} (h : frZ P I A J pl P' I' A' J' pl') (hB : inB pl) : inB pl' := fun q z => h.2.2.2.2.1 q (hB q z)
theorem frZ.bd (P : Nat → Nat → Option Nat) (I A : Nat → Nat → Int32) (J : Nat → Nat → Int64) (pl : List Nat) (r : Nat → Int32) : frZ P I A J pl P I (up1 A 131 r) J pl := ⟨fun _ _ _ => rfl, fun _ _ _ => rfl, fun q h _ => up1_p h, fun _ _ _ => rfl, fun _ h => h, fun _ h => Or.inl h⟩
theorem tbS_a {P : Nat → Nat → Option Nat} {I A : Nat → Nat → Int32} {J : Nat → Nat → Int64} {pl : List Nat} {m : Nat} {τ : TB} (h : tbS P I A J pl m τ) (r : Nat → Int32) : tbS P I (up1 A 131 r) J pl m τ := by
  unfold tbS; rw [up1_p (by omega)]; exact h
def gsQ (P O : Nat → Nat → Option Nat) (I A : Nat → Nat → Int32) (J : Nat → Nat → Int64) (pl : List Nat) (m : Nat) (B : Nat → Nat) (τ : TB) : Option Value → HS → List Nat → Prop := fun r σ' pl' => r = none ∧ ∃ P' I' A' J', σ' = mC P' O I' A' J' ∧ frZ P I A J pl P' I' A' J' pl' ∧ clC P' O pl' ∧ tbS P' I' A' J' pl' m τ ∧ bdR (A' 131) 0 B
theorem rec_g (m : Nat) (τ : TB) (B : Nat → Nat) (w v : Nat) : τ.2.2.2.2 ≤ (recF m τ B w v).2.2.2.2 := by
  obtain ⟨wt, cnt, T, W, g⟩ := τ
  unfold recF
  split
  · exact Nat.le_refl _
  · split
    · unfold rc1; split
      · exact Nat.le_refl _
      · exact Nat.le_add_right _ _
    · unfold rc1; split
      · exact Nat.le_refl _
      · exact Nat.le_add_right _ _
/-- a loop over points 1 to n -/
noncomputable def lpF (ok : Nat → Prop) (st : Nat → TB → TB) : Nat → TB → TB
  | 0, τ => τ
  | k + 1, τ => @ite TB (ok (k + 1)) (Classical.propDecidable _) (st (k + 1) (lpF ok st k τ)) (lpF ok st k τ)
theorem lp_y {ok : Nat → Prop} {st : Nat → TB → TB} {k : Nat} {τ : TB} (h : ok (k + 1)) : lpF ok st (k + 1) τ = st (k + 1) (lpF ok st k τ) := by
  show @ite TB _ (Classical.propDecidable _) _ _ = _; rw [if_pos h]
theorem lp_n {ok : Nat → Prop} {st : Nat → TB → TB} {k : Nat} {τ : TB} (h : ¬ ok (k + 1)) : lpF ok st (k + 1) τ = lpF ok st k τ := by
  show @ite TB _ (Classical.propDecidable _) _ _ = _; rw [if_neg h]
theorem lp_g {ok : Nat → Prop} {st : Nat → TB → TB} {τ : TB} (h : ∀ f σ, σ.2.2.2.2 ≤ (st f σ).2.2.2.2) {a : Nat} : ∀ b, a ≤ b → (lpF ok st a τ).2.2.2.2 ≤ (lpF ok st b τ).2.2.2.2 := fun b hb => by
  induction b with
  | zero => obtain rfl : a = 0 := by omega
            exact Nat.le_refl _
  | succ b ih =>
    by_cases c : a = b + 1
    · rw [c]; exact Nat.le_refl _
    · refine Nat.le_trans (ih (by omega)) ?_
      by_cases y : ok (b + 1)
      · rw [lp_y y]; exact h _ _
      · rw [lp_n y]; exact Nat.le_refl _
theorem lp_0 {ok : Nat → Prop} {st : Nat → TB → TB} {τ : TB} : ∀ n, (∀ f, 1 ≤ f → f ≤ n → ¬ ok f) → lpF ok st n τ = τ
  | 0, _ => rfl
  | n + 1, h => by rw [lp_n (h (n + 1) (by omega) (Nat.le_refl _)), lp_0 n (fun f a b => h f a (by omega))]
/-- all points, or else the row alone -/
noncomputable def alF (ok : Nat → Prop) (st : Nat → TB → TB) (el : TB → TB) (n : Nat) (τ : TB) : TB := @ite TB (∃ f, 1 ≤ f ∧ f ≤ n ∧ ok f) (Classical.propDecidable _) (lpF ok st n τ) (el τ)
theorem al_g {ok : Nat → Prop} {st : Nat → TB → TB} {el : TB → TB} {τ : TB} {n : Nat} (h : ∀ f σ, σ.2.2.2.2 ≤ (st f σ).2.2.2.2) (h2 : ∀ σ, σ.2.2.2.2 ≤ (el σ).2.2.2.2) {k : Nat} (hk : k ≤ n) : (lpF ok st k τ).2.2.2.2 ≤ (alF ok st el n τ).2.2.2.2 := by
  unfold alF
  by_cases c : ∃ f, 1 ≤ f ∧ f ≤ n ∧ ok f
  · rw [if_pos c]; exact lp_g h n hk
  · rw [if_neg c, lp_0 k (fun f a b z => c ⟨f, a, by omega, z⟩)]; exact h2 τ
theorem al_0 {ok : Nat → Prop} {st : Nat → TB → TB} {el : TB → TB} {τ : TB} {n : Nat} (h : ∀ f σ, σ.2.2.2.2 ≤ (st f σ).2.2.2.2) (h2 : ∀ σ, σ.2.2.2.2 ≤ (el σ).2.2.2.2) : τ.2.2.2.2 ≤ (alF ok st el n τ).2.2.2.2 := al_g (k := 0) h h2 (Nat.zero_le _)
noncomputable def gonF (m d : Nat) (B : Nat → Nat) (w v : Nat) (τ : TB) : TB := alF (fun f => cmP B m f d) (fun f τ => recF m τ (mvB B m f d) (w + (32 * f + (f - d)) * 1024 ^ 2) 4) (fun τ => recF m τ B w v) 25 τ
theorem gon_g (m d : Nat) (B : Nat → Nat) (w v : Nat) (τ : TB) : τ.2.2.2.2 ≤ (gonF m d B w v τ).2.2.2.2 := al_0 (fun _ _ => rec_g _ _ _ _ _) (fun _ => rec_g _ _ _ _ _)
theorem to_n {f d : Nat} (hf : f ≤ 25) (hd : d ≤ 6) : (if (nI f - nI d) < (0 : Int32) then (0 : Int32) else (nI f - nI d)) = nI (f - d) := by
  have : ∀ f, f < 26 → ∀ d, d < 7 → (if (nI f - nI d) < (0 : Int32) then (0 : Int32) else (nI f - nI d)) = nI (f - d) := by decide +kernel
  exact this f (by omega) d (by omega)
theorem mvB_okP {m f d : Nat} {B : Nat → Nat} (h : okB B) (hm : m ≤ 1) (h1 : 1 ≤ f) (h2 : f ≤ 25) (hd : 1 ≤ d) (hc : cmP B m f d) : okB (mvB B m f d) := mvB_ok h hm h1 h2 hd hc
theorem pw_m {a b : Nat} (h : a ≤ b) : 2 ^ a ≤ 2 ^ b := Nat.pow_le_pow_right (by decide) h

theorem r_6_goOnBy_0 {X : Ctx} {mc ms k1 k2 : Nat} (F : Fx X cX6_goOnBy RX6 9 4 mc ms) (hk1 : k1 ≤ mc) (hk2 : k2 ≤ ms) {P O : Nat → Nat → Option Nat} (hP : laP P) {I A : Nat → Nat → Int32} {J : Nat → Nat → Int64} {pl : List Nat} (hB : inB pl) {x1 x4 : Int32} {y2 : Int64}
    (e_1 : WA X (mC P O I A J) pl k1 k2 6 [(0, .ref 110), (1, .int x1), (2, .long y2), (4, .int x4), (5, .int 0), (6, .int 1)] []) :
    WA X (mC P O I A J) pl k1 k2 0 [(0, .ref 110), (1, .int x1), (2, .long y2), (4, .int x4)] [] := by
  refine a_iconst (v := 0) F dX6_goOnBy_0 (by decide) ?_
  refine a_istore F dX6_goOnBy_1 (by decide) rfl ?_
  refine a_iconst (v := 1) F dX6_goOnBy_3 (by decide) ?_
  refine a_istore F dX6_goOnBy_4 (by decide) rfl ?_
  refine a_sub [2, 3, 4, 5, 1, 0] rfl ?_
  exact e_1

theorem r_6_goOnBy_6 {X : Ctx} {mc ms k1 k2 : Nat} (F : Fx X cX6_goOnBy RX6 9 4 mc ms) (hk1 : k1 ≤ mc) (hk2 : k2 ≤ ms) {Φ : Option Value → HS → List Nat → Prop} (E : Ex X none mc ms Φ) {P O : Nat → Nat → Option Nat} (hP : laP P) {I A : Nat → Nat → Int32} {J : Nat → Nat → Int64} {pl : List Nat} (hB : inB pl) {x1 x4 x5 x6 : Int32} {y2 : Int64}
    (e_1 : (25 < x6) → (¬ x5 = 0) → Φ none (mC P O I A J) pl)
    (e_2 : (25 < x6) → (x5 = 0) → WA X (mC P O I A J) pl k1 k2 94 [(0, .ref 110), (1, .int x1), (2, .long y2), (4, .int x4), (5, .int x5), (6, .int x6)] [.int x4, .long y2, .ref 110])
    (e_3 : (¬ (25 < x6)) → WA X (mC P O I A J) pl k1 k2 20 [(0, .ref 110), (1, .int x1), (2, .long y2), (4, .int x4), (5, .int x5), (6, .int x6)] [.int x1, .int x6, .ref 130]) :
    WA X (mC P O I A J) pl k1 k2 6 [(0, .ref 110), (1, .int x1), (2, .long y2), (4, .int x4), (5, .int x5), (6, .int x6)] [] := by
  refine a_iload F 5 dX6_goOnBy_6 rfl ?_
  refine a_bipush (v := 25) F dX6_goOnBy_8 (by decide) ?_
  refine a_icmp_gt (tgt := 85) F dX6_goOnBy_10 (by decide) (fun (c_1 : 25 < x6) => ?_) (fun (c_1 : ¬ (25 < x6)) => ?_)
  · refine a_iload F 4 dX6_goOnBy_85 rfl ?_
    refine a_if_ne (tgt := 97) F dX6_goOnBy_87 (by decide) (fun (c_2 : ¬ x5 = 0) => ?_) (fun (c_2 : x5 = 0) => ?_)
    · exact a_vret F E dX6_goOnBy_97 hk1 hk2 (e_1 c_1 c_2)
    · refine a_aload_n F 0 dX6_goOnBy_90 rfl rfl ?_
      refine a_lload_n F 2 dX6_goOnBy_91 rfl rfl ?_
      refine a_iload F 3 dX6_goOnBy_92 rfl ?_
      exact e_2 c_1 c_2
  · refine a_aload_n F 0 dX6_goOnBy_13 rfl rfl ?_
    refine a_getr (b := 130) F fl_6_26 rfl (hB _ (by decide)) rfl ((hP 110 0 (by decide)).trans rfl) dX6_goOnBy_14 ?_
    refine a_iload F 5 dX6_goOnBy_17 rfl ?_
    refine a_iload_n F 1 dX6_goOnBy_19 rfl rfl ?_
    exact e_3 c_1

theorem r_6_goOnBy_79 {X : Ctx} {mc ms k1 k2 : Nat} (F : Fx X cX6_goOnBy RX6 9 4 mc ms) (hk1 : k1 ≤ mc) (hk2 : k2 ≤ ms) {P O : Nat → Nat → Option Nat} (hP : laP P) {I A : Nat → Nat → Int32} {J : Nat → Nat → Int64} {pl : List Nat} (hB : inB pl) {x1 x4 x5 x6 : Int32} {y2 : Int64}
    (e_1 : WA X (mC P O I A J) pl k1 k2 6 [(0, .ref 110), (1, .int x1), (2, .long y2), (4, .int x4), (5, .int x5), (6, .int (x6 + 1))] []) :
    WA X (mC P O I A J) pl k1 k2 79 [(0, .ref 110), (1, .int x1), (2, .long y2), (4, .int x4), (5, .int x5), (6, .int x6)] [] := by
  refine a_iinc (v := x6 + 1) F 5 dX6_goOnBy_79 rfl rfl (by decide) rfl ?_
  refine a_goto (tgt := 6) F dX6_goOnBy_82 (by decide) ?_
  refine a_sub [1, 2, 3, 4, 5, 0] rfl ?_
  exact e_1

theorem r_6_goOnBy_23 {X : Ctx} {mc ms k1 k2 : Nat} (F : Fx X cX6_goOnBy RX6 9 4 mc ms) (hk1 : k1 ≤ mc) (hk2 : k2 ≤ ms) {P O : Nat → Nat → Option Nat} (hP : laP P) {I A : Nat → Nat → Int32} {J : Nat → Nat → Int64} {pl : List Nat} (hB : inB pl) {x1 x4 x5 x6 x9 : Int32} {y2 : Int64}
    (e_1 : (x9 = 0) → WA X (mC P O I A J) pl k1 k2 79 [(0, .ref 110), (1, .int x1), (2, .long y2), (4, .int x4), (5, .int x5), (6, .int x6)] [])
    (e_2 : (¬ (x9 = 0)) → WA X (mC P O I A J) pl k1 k2 44 [(7, .int (if (x6 - x1) < (0 : Int32) then (0 : Int32) else (x6 - x1))), (0, .ref 110), (1, .int x1), (2, .long y2), (4, .int x4), (5, .int x5), (6, .int x6)] [.int (if (x6 - x1) < (0 : Int32) then (0 : Int32) else (x6 - x1)), .int x6, .ref 130]) :
    WA X (mC P O I A J) pl k1 k2 23 [(0, .ref 110), (1, .int x1), (2, .long y2), (4, .int x4), (5, .int x5), (6, .int x6)] [.int x9] := by
  refine a_if_eq (tgt := 79) F dX6_goOnBy_23 (by decide) (fun (c_3 : x9 = 0) => ?_) (fun (c_3 : ¬ (x9 = 0)) => ?_)
  · exact e_1 c_3
  · refine a_iload F 5 dX6_goOnBy_26 rfl ?_
    refine a_iload_n F 1 dX6_goOnBy_28 rfl rfl ?_
    refine a_isub F dX6_goOnBy_29 ?_
    refine a_iconst (v := 0) F dX6_goOnBy_30 (by decide) ?_
    refine a_mmax F mxl_6_57 (by decide) hk1 hk2 (by decide) dX6_goOnBy_31 ?_
    refine a_istore F dX6_goOnBy_34 (by decide) rfl ?_
    refine a_aload_n F 1 dX6_goOnBy_36 rfl rfl ?_
    refine a_getr (b := 130) F fl_6_26 rfl (hB _ (by decide)) rfl ((hP 110 0 (by decide)).trans rfl) dX6_goOnBy_37 ?_
    refine a_iload F 6 dX6_goOnBy_40 rfl ?_
    refine a_iload F 0 dX6_goOnBy_42 rfl ?_
    exact e_2 c_3

theorem r_6_goOnBy_47 {X : Ctx} {mc ms k1 k2 : Nat} (F : Fx X cX6_goOnBy RX6 9 4 mc ms) (hk1 : k1 ≤ mc) (hk2 : k2 ≤ ms) {P O : Nat → Nat → Option Nat} (hP : laP P) {I A : Nat → Nat → Int32} {J : Nat → Nat → Int64} {pl : List Nat} (hB : inB pl) {x1 x4 x5 x6 x7 x9 : Int32} {y2 : Int64}
    (e_1 : WA X (mC P O I A J) pl k1 k2 56 [(8, .int x9), (0, .ref 110), (1, .int x1), (2, .long y2), (4, .int x4), (5, .int x5), (6, .int x6), (7, .int x7)] [.int x7, .int x6, .int 1, .long y2, .ref 110]) :
    WA X (mC P O I A J) pl k1 k2 47 [(0, .ref 110), (1, .int x1), (2, .long y2), (4, .int x4), (5, .int x5), (6, .int x6), (7, .int x7)] [.int x9] := by
  refine a_istore F dX6_goOnBy_47 (by decide) rfl ?_
  refine a_aload_n F 1 dX6_goOnBy_49 rfl rfl ?_
  refine a_lload_n F 3 dX6_goOnBy_50 rfl rfl ?_
  refine a_iconst (v := 1) F dX6_goOnBy_51 (by decide) ?_
  refine a_iload F 6 dX6_goOnBy_52 rfl ?_
  refine a_iload F 7 dX6_goOnBy_54 rfl ?_
  exact e_1

theorem r_6_goOnBy_59 {X : Ctx} {mc ms k1 k2 : Nat} (F : Fx X cX6_goOnBy RX6 9 4 mc ms) (hk1 : k1 ≤ mc) (hk2 : k2 ≤ ms) {P O : Nat → Nat → Option Nat} (hP : laP P) {I A : Nat → Nat → Int32} {J : Nat → Nat → Int64} {pl : List Nat} (hB : inB pl) {x1 x4 x5 x6 x7 x8 : Int32} {y2 y9 : Int64}
    (e_1 : WA X (mC P O I A J) pl k1 k2 60 [(0, .ref 110), (1, .int x1), (2, .long y2), (4, .int x4), (5, .int x5), (6, .int x6), (7, .int x7), (8, .int x8)] [.int 4, .long y9, .ref 110]) :
    WA X (mC P O I A J) pl k1 k2 59 [(0, .ref 110), (1, .int x1), (2, .long y2), (4, .int x4), (5, .int x5), (6, .int x6), (7, .int x7), (8, .int x8)] [.long y9, .ref 110] := by
  refine a_iconst (v := 4) F dX6_goOnBy_59 (by decide) ?_
  exact e_1

theorem r_6_goOnBy_63 {X : Ctx} {mc ms k1 k2 : Nat} (F : Fx X cX6_goOnBy RX6 9 4 mc ms) (hk1 : k1 ≤ mc) (hk2 : k2 ≤ ms) {P O : Nat → Nat → Option Nat} (hP : laP P) {I A : Nat → Nat → Int32} {J : Nat → Nat → Int64} {pl : List Nat} (hB : inB pl) {x1 x4 x5 x6 x7 x8 : Int32} {y2 : Int64}
    (e_1 : WA X (mC P O I A J) pl k1 k2 73 [(0, .ref 110), (1, .int x1), (2, .long y2), (4, .int x4), (5, .int x5), (6, .int x6), (7, .int x7), (8, .int x8)] [.int x8, .int x7, .int x6, .ref 130]) :
    WA X (mC P O I A J) pl k1 k2 63 [(0, .ref 110), (1, .int x1), (2, .long y2), (4, .int x4), (5, .int x5), (6, .int x6), (7, .int x7), (8, .int x8)] [] := by
  refine a_aload_n F 0 dX6_goOnBy_63 rfl rfl ?_
  refine a_getr (b := 130) F fl_6_26 rfl (hB _ (by decide)) rfl ((hP 110 0 (by decide)).trans rfl) dX6_goOnBy_64 ?_
  refine a_iload F 5 dX6_goOnBy_67 rfl ?_
  refine a_iload F 6 dX6_goOnBy_69 rfl ?_
  refine a_iload F 7 dX6_goOnBy_71 rfl ?_
  exact e_1

theorem r_6_goOnBy_76 {X : Ctx} {mc ms k1 k2 : Nat} (F : Fx X cX6_goOnBy RX6 9 4 mc ms) (hk1 : k1 ≤ mc) (hk2 : k2 ≤ ms) {P O : Nat → Nat → Option Nat} (hP : laP P) {I A : Nat → Nat → Int32} {J : Nat → Nat → Int64} {pl : List Nat} (hB : inB pl) {x1 x4 x5 x6 x7 x8 : Int32} {y2 : Int64}
    (e_1 : WA X (mC P O I A J) pl k1 k2 79 [(0, .ref 110), (1, .int x1), (2, .long y2), (4, .int x4), (5, .int 1), (6, .int x6)] []) :
    WA X (mC P O I A J) pl k1 k2 76 [(0, .ref 110), (1, .int x1), (2, .long y2), (4, .int x4), (5, .int x5), (6, .int x6), (7, .int x7), (8, .int x8)] [] := by
  refine a_iconst (v := 1) F dX6_goOnBy_76 (by decide) ?_
  refine a_istore F dX6_goOnBy_77 (by decide) rfl ?_
  refine a_sub [1, 2, 3, 4, 0, 5] rfl ?_
  exact e_1

theorem r_6_goOnBy_97 {X : Ctx} {mc ms k1 k2 : Nat} (F : Fx X cX6_goOnBy RX6 9 4 mc ms) (hk1 : k1 ≤ mc) (hk2 : k2 ≤ ms) {Φ : Option Value → HS → List Nat → Prop} (E : Ex X none mc ms Φ) {P O : Nat → Nat → Option Nat} (hP : laP P) {I A : Nat → Nat → Int32} {J : Nat → Nat → Int64} {pl : List Nat} (hB : inB pl) {x1 x4 x5 x6 : Int32} {y2 : Int64}
    (e_1 : Φ none (mC P O I A J) pl) :
    WA X (mC P O I A J) pl k1 k2 97 [(0, .ref 110), (1, .int x1), (2, .long y2), (4, .int x4), (5, .int x5), (6, .int x6)] [] := by
  exact a_vret F E dX6_goOnBy_97 hk1 hk2 (e_1)

set_option maxRecDepth 100000 in
theorem c_6_goOnBy (l : Launch) {P O : Nat → Nat → Option Nat} (hP : laP P) (I A : Nat → Nat → Int32) (J : Nat → Nat → Int64) {pl : List Nat} (hB : inB pl) (m x y d w v : Nat) (B0 B : Nat → Nat) (τ : TB) (hm : m ≤ 1) (hx : 1 ≤ x ∧ x ≤ 6) (hy : 1 ≤ y ∧ y ≤ 6) (hok0 : okB B0) (hd1 : 1 ≤ d) (hd6 : d ≤ 6) (hv1 : v = 2 ∨ v = 3) (hC : clC P O pl) (ht : tbS P I A J pl m τ) (hb : bdR (A 131) 0 B) (hI : I 130 1 = nI m) (hiv : ∃ S, ivT m x y B0 S τ) (hr : rcb m x y B0 1 B w) (hr2 : ∀ f, 1 ≤ f → f ≤ 25 → cmP B m f d → rcb m x y B0 2 (mvB B m f d) (w + (32 * f + (f - d)) * 1024 ^ 2)) : Con l 4 yX6_goOnBy cX6_goOnBy 9 none [.ref 110, .int (nI d), .long (lN w), .int (nI v)] (mC P O I A J) pl (2 * ((gonF m d B w v τ).2.2.2.2 - τ.2.2.2.2)) (576 * (2 ^ (gonF m d B w v τ).2.2.2.2 - 2 ^ τ.2.2.2.2)) (gsQ P O I A J pl m B (gonF m d B w v τ)) := by
  refine Con.of (by decide) (Nat.le_of_ble_eq_true rfl) (fun X hX9 hn9 F E => ?_)
  obtain ⟨-, okb, wok, w40⟩ := rcb_ok hm hx hy hok0 hr
  have gm := fun (k : Nat) (hk : k ≤ 25) => al_g (ok := fun f => cmP B m f d) (st := fun f τ => recF m τ (mvB B m f d) (w + (32 * f + (f - d)) * 1024 ^ 2) 4) (el := fun τ => recF m τ B w v) (τ := τ) (fun _ _ => rec_g _ _ _ _ _) (fun _ => rec_g _ _ _ _ _) hk
  have g0 := fun (k : Nat) => lp_g (ok := fun f => cmP B m f d) (st := fun f τ => recF m τ (mvB B m f d) (w + (32 * f + (f - d)) * 1024 ^ 2) 4) (τ := τ) (fun _ _ => rec_g _ _ _ _ _) (a := 0) k (Nat.zero_le _)
  obtain ⟨tk, htk⟩ : ∃ tk : Nat → TB, (fun k => lpF (fun f => cmP B m f d) (fun f τ => recF m τ (mvB B m f d) (w + (32 * f + (f - d)) * 1024 ^ 2) 4) k τ) = tk := ⟨_, rfl⟩
  have ek : ∀ k, lpF (fun f => cmP B m f d) (fun f τ => recF m τ (mvB B m f d) (w + (32 * f + (f - d)) * 1024 ^ 2) 4) k τ = tk k := fun k => by rw [← htk]
  have ky : ∀ k, cmP B m (k + 1) d → tk (k + 1) = recF m (tk k) (mvB B m (k + 1) d) (w + (32 * (k + 1) + (k + 1 - d)) * 1024 ^ 2) 4 := fun k h => by rw [← ek, ← ek]; exact lp_y h
  have kn : ∀ k, ¬ cmP B m (k + 1) d → tk (k + 1) = tk k := fun k h => by rw [← ek, ← ek]; exact lp_n h
  have k0 : tk 0 = τ := by rw [← ek]; rfl
  have gm : ∀ k, k ≤ 25 → (tk k).2.2.2.2 ≤ (gonF m d B w v τ).2.2.2.2 := fun k hk => by rw [← ek]; exact gm k hk
  have g0 : ∀ k, τ.2.2.2.2 ≤ (tk k).2.2.2.2 := fun k => by rw [← ek]; exact g0 k
  have eG1 : (∃ f, 1 ≤ f ∧ f ≤ 25 ∧ cmP B m f d) → gonF m d B w v τ = tk 25 := fun h => by rw [← ek]; unfold gonF alF; rw [if_pos h]
  have eG0 : (¬ ∃ f, 1 ≤ f ∧ f ≤ 25 ∧ cmP B m f d) → gonF m d B w v τ = recF m τ B w v := fun h => by unfold gonF alF; rw [if_neg h]
  clear htk
  have lp : ∀ f n (z5 : Int32) (P1 : Nat → Nat → Option Nat) (I1 A1 : Nat → Nat → Int32) (J1 : Nat → Nat → Int64) (pl1 : List Nat) (k1 k2 : Nat), n + f = 26 → 1 ≤ n → (z5 = 0 ↔ ¬ ∃ f, 1 ≤ f ∧ f < n ∧ cmP B m f d) → frZ P I A J pl P1 I1 A1 J1 pl1 → clC P1 O pl1 → tbS P1 I1 A1 J1 pl1 m (tk (n - 1)) → bdR (A1 131) 0 B → (∃ S, ivT m x y B0 S (tk (n - 1))) → k1 ≤ 2 * ((tk (n - 1)).2.2.2.2 - τ.2.2.2.2) → k2 ≤ 576 * (2 ^ (tk (n - 1)).2.2.2.2 - 2 ^ τ.2.2.2.2) → WA X (mC P1 O I1 A1 J1) pl1 k1 k2 6 [(0, .ref 110), (1, .int (nI d)), (2, .long (lN w)), (4, .int (nI v)), (5, .int z5), (6, .int (nI n))] [] := by
    intro f
    induction f with
    | zero =>
      intro n z5 P1 I1 A1 J1 pl1 k1 k2 hn n1 hz fy c1 t1 b1 iv1 h1 h2
      obtain rfl : n = 26 := by omega
      rw [show 26 - 1 = 25 from rfl] at t1 iv1 h1 h2
      have hB : inB pl1 := fy.b hB
      have q1 := gm 25 (Nat.le_refl _)
      have q2 := g0 25
      have q3 := pw_m q1
      have q4 := pw_m q2
      refine r_6_goOnBy_6 F (by omega) (by omega) E (fy.la hP) hB (fun _ z => ?_) (fun _ z => ?_) (fun z => absurd (by decide) z)
      · have any : ∃ f, 1 ≤ f ∧ f ≤ 25 ∧ cmP B m f d := by
          obtain ⟨f, a, b, c⟩ := Classical.not_not.mp (mt hz.mpr z)
          exact ⟨f, a, by omega, c⟩
        rw [eG1 any]
        exact ⟨rfl, P1, I1, A1, J1, rfl, fy, c1, t1, b1⟩
      · have nany : ¬ ∃ f, 1 ≤ f ∧ f ≤ 25 ∧ cmP B m f d := fun ⟨f, a, b, c⟩ => hz.mp z ⟨f, a, by omega, c⟩
        have e25 : tk 25 = τ := by rw [← ek]; exact lp_0 25 (fun f a b c => nany ⟨f, a, b, c⟩)
        rw [e25] at t1 iv1 h1 h2
        have eG := eG0 nany
        obtain ⟨S1, iv1⟩ := iv1
        have hr' : rcb m x y B0 (v / 2) B w := by rcases hv1 with rfl | rfl <;> exact hr
        obtain ⟨r1, r2, r3⟩ := rec_S (v := v) hm hx hy hok0 iv1 hr' (by omega)
        have q5 := rec_g m τ B w v
        have q6 := pw_m q5
        rw [eG] at F E
        refine a_callV (b := 110) (As := [.long (lN w), .int (nI v)]) (st := []) (ci := 6) F (c_6_record (xl X) (fy.la hP) I1 A1 J1 hB m w v B τ hm c1 t1 b1 (okB_dg okb) w40 (by omega) (by have := iv1.1; omega) (by omega)) ml_6_49 im_yX6_record se_yX6_record (by decide) (by decide) rfl (hB _ (by decide)) rfl rfl dX6_goOnBy_94 (by decide) (by omega) (by omega) (hl_r (hB _ (by decide)) (hl_i (hl_l (hl_i (hl_i (hl_i hl_nil)))))) hs_nil ?_
        rintro _ _ pl2 ⟨rfl, P2, I2, A2, J2, rfl, fx2, c2, tb2⟩ _
        refine r_6_goOnBy_97 F (by omega) (by omega) E ((fy.tr fx2.y).la hP) (fx2.b hB) ⟨rfl, P2, I2, A2, J2, rfl, fy.tr fx2.y, c2, tb2, ?_⟩
        rw [fx2.2.2.1 131 (by omega)]; exact b1
    | succ f ih =>
      intro n z5 P1 I1 A1 J1 pl1 k1 k2 hn n1 hz fy c1 t1 b1 iv1 h1 h2
      have n25 : n ≤ 25 := by omega
      have hB : inB pl1 := fy.b hB
      have hP1 := fy.la hP
      have hI1 : I1 130 1 = nI m := by rw [fy.2.1 130 1 (by omega)]; exact hI
      have nlt : ¬ (25 : Int32) < nI n := fun z => by have := (nI_gtn 25 (by omega) (by omega)).mp z; omega
      have q1 := gm (n - 1) (by omega)
      have q2 := g0 (n - 1)
      have q3 := pw_m q1
      have q4 := pw_m q2
      have eD : (gonF m d B w v τ).2.2.2.2 = (gonF m d B w v τ).2.2.2.2 := rfl
      refine r_6_goOnBy_6 F (by omega) (by omega) E hP1 hB (fun z => absurd z nlt) (fun z => absurd z nlt) (fun _ => ?_)
      refine a_callV (b := 130) (As := [.int (nI n), .int (nI d)]) (st := []) (ci := 0) F (c_0_canMove (xl X) hP1 I1 A1 J1 hB 130 rfl (hB _ (by decide)) (hB _ (by decide)) n d m B n25 hd1 hd6 hm hI1 b1) ml_6_70 im_yX0_canMove se_yX0_canMove (by decide) (by decide) rfl (hB _ (by decide)) rfl rfl dX6_goOnBy_20 (by decide) (by omega) (by omega) (hl_r (hB _ (by decide)) (hl_i (hl_l (hl_i (hl_i (hl_i hl_nil)))))) hs_nil ?_
      rintro _ _ _ ⟨rfl, rfl, rfl⟩ _
      refine r_6_goOnBy_23 F (by omega) (by omega) hP1 hB (fun z => ?_) (fun z => ?_)
      · have nc : ¬ cmP B m n d := fun h => by rw [if_pos ⟨n1, h⟩] at z; exact absurd z (by decide)
        have en := kn (n - 1) (by rw [show n - 1 + 1 = n by omega]; exact nc)
        rw [show n - 1 + 1 = n by omega] at en
        refine r_6_goOnBy_79 F (by omega) (by omega) hP1 hB ?_
        rw [nI_1]
        refine ih (n + 1) z5 P1 I1 A1 J1 pl1 _ _ (by omega) (by omega) (hz.trans (not_congr ⟨fun ⟨f, a, b, c⟩ => ⟨f, a, by omega, c⟩, fun ⟨f, a, b, c⟩ => ⟨f, a, ?_, c⟩⟩)) fy c1 ?_ b1 ?_ ?_ ?_
        · by_cases y9 : f = n
          · subst y9; exact absurd c nc
          · omega
        all_goals rw [show n + 1 - 1 = n by omega, en]
        · exact t1
        · exact iv1
        · exact h1
        · exact h2
      · have hc : cmP B m n d := Classical.byContradiction (fun h => z (if_neg (fun y => h y.2)))
        have en := ky (n - 1) (by rw [show n - 1 + 1 = n by omega]; exact hc)
        rw [show n - 1 + 1 = n by omega] at en
        rw [to_n n25 hd6]
        refine a_callV (b := 130) (As := [.int (nI n), .int (nI (n - d))]) (st := []) (ci := 0) F (c_0_move (xl X) hP1 I1 A1 J1 hB 130 rfl (hB _ (by decide)) (hB _ (by decide)) n d m B n1 n25 hd1 hm hI1 b1 okb hc) ml_6_74 im_yX0_move se_yX0_move (by decide) (by decide) rfl (hB _ (by decide)) rfl rfl dX6_goOnBy_44 (by decide) (by omega) (by omega) (hl_i (hl_r (hB _ (by decide)) (hl_i (hl_l (hl_i (hl_i (hl_i hl_nil))))))) hs_nil ?_
        rintro _ _ _ ⟨r1, rfl, rfl, rfl, b2⟩ _
        refine a_sub [1, 2, 3, 4, 5, 6, 0] rfl ?_
        refine r_6_goOnBy_47 F (by omega) (by omega) hP1 hB ?_
        refine a_callS (As := [.long (lN w), .int (nI 1), .int (nI n), .int (nI (n - d))]) (st := [.ref 110]) F (c_6_withMove (xl X) hP1 I1 _ J1 hB w 1 n (n - d) (by omega) wok (by omega)) ml_6_77 sm_yX6_withMove (by decide) rfl dX6_goOnBy_56 (Nat.le_of_ble_eq_true rfl) (by omega) (by omega) (hl_i (hl_r (hB _ (by decide)) (hl_i (hl_l (hl_i (hl_i (hl_i (hl_i hl_nil)))))))) (hs_r (hB _ (by decide)) hs_nil) ?_
        rintro _ _ _ ⟨rfl, rfl, rfl⟩ _
        refine a_sub [1, 2, 3, 4, 5, 6, 7, 0] rfl ?_
        refine r_6_goOnBy_59 F (by omega) (by omega) hP1 hB ?_
        obtain ⟨S1, iv1⟩ := iv1
        have hr9 := hr2 n n1 n25 hc
        obtain ⟨-, ok9, -, w9⟩ := rcb_ok hm hx hy hok0 hr9
        obtain ⟨s1, s2, s3⟩ := rec_S (v := 4) hm hx hy hok0 iv1 hr9 (by omega)
        have q5 := rec_g m (tk (n - 1)) (mvB B m n d) (w + (32 * n + (n - d)) * 1024 ^ 2) 4
        have q6 := pw_m q5
        have q7 := gm n n25
        rw [en] at q7
        have q8 := pw_m q7
        refine a_callV (b := 110) (As := [.long (lN (w + (32 * n + (n - d)) * 1024 ^ 2)), .int (nI 4)]) (st := []) (ci := 6) F (c_6_record (xl X) hP1 I1 (up1 A1 131 r1) J1 hB m (w + (32 * n + (n - d)) * 1024 ^ 2) 4 (mvB B m n d) (tk (n - 1)) hm c1 (tbS_a t1 r1) (by rw [up1_s]; exact b2) (okB_dg ok9) w9 (by omega) (by have := iv1.1; omega) (by omega)) ml_6_49 im_yX6_record se_yX6_record (by decide) (by decide) rfl (hB _ (by decide)) rfl rfl dX6_goOnBy_60 (by decide) (by omega) (by omega) (hl_r (hB _ (by decide)) (hl_i (hl_l (hl_i (hl_i (hl_i (hl_i (hl_i hl_nil)))))))) hs_nil ?_
        rintro _ _ pl2 ⟨rfl, P2, I2, A2, J2, rfl, fx2, c2, tb2⟩ _
        have fy2 := (fy.tr (frZ.bd P1 I1 A1 J1 pl1 r1)).tr fx2.y
        have hB1 := hB
        have hB : inB pl2 := fx2.b hB1
        have hP2 := fy2.la hP
        have hI2 : I2 130 1 = nI m := by rw [fy2.2.1 130 1 (by omega)]; exact hI
        have b3 : bdR (A2 131) 0 (mvB B m n d) := by rw [fx2.2.2.1 131 (by omega), up1_s]; exact b2
        refine r_6_goOnBy_63 F (by omega) (by omega) hP2 hB ?_
        refine a_callV (b := 130) (As := [.int (nI n), .int (nI (n - d)), .int (@ite Int32 (hitP B m n d) (Classical.propDecidable _) 1 0)]) (st := []) (ci := 0) F (c_0_unmove (xl X) hP2 I2 A2 J2 hB 130 rfl (hB _ (by decide)) (hB _ (by decide)) n d m B n1 n25 hd1 hm hI2 b3 okb hc) ml_6_81 im_yX0_unmove se_yX0_unmove (by decide) (by decide) rfl (hB _ (by decide)) rfl rfl dX6_goOnBy_73 (by decide) (by omega) (by omega) (hl_r (hB _ (by decide)) (hl_i (hl_l (hl_i (hl_i (hl_i (hl_i (hl_i hl_nil)))))))) hs_nil ?_
        rintro _ _ _ ⟨r2, rfl, rfl, rfl, b4⟩ _
        refine r_6_goOnBy_76 F (by omega) (by omega) hP2 hB ?_
        refine r_6_goOnBy_79 F (by omega) (by omega) hP2 hB ?_
        rw [nI_1]
        refine ih (n + 1) 1 P2 I2 (up1 A2 131 r2) J2 pl2 _ _ (by omega) (by omega) ⟨fun z => absurd z (by decide), fun z => absurd ⟨n, n1, by omega, hc⟩ z⟩ (fy2.tr (frZ.bd P2 I2 A2 J2 pl2 r2)) c2 ?_ (by rw [up1_s]; exact b4) ?_ ?_ ?_
        all_goals rw [show n + 1 - 1 = n by omega, en]
        · exact tbS_a tb2 r2
        · exact ⟨_, s1⟩
        · omega
        · omega
  refine r_6_goOnBy_0 F (Nat.zero_le _) (Nat.zero_le _) hP hB ?_
  refine lp 25 1 0 P I A J pl 0 0 rfl (Nat.le_refl _) ⟨fun _ ⟨f, a, b, _⟩ => by omega, fun _ => rfl⟩ (frZ.rf P I A J pl) hC ?_ hb ?_ (Nat.zero_le _) (Nat.zero_le _)
  · rw [show 1 - 1 = 0 from rfl, k0]; exact ht
  · rw [show 1 - 1 = 0 from rfl, k0]; exact hiv
