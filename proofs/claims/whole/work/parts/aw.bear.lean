/-! bearing off: what it costs, and the public methods -/
theorem c_11_checkKnownI (l : Launch) (hst : l.stackTraces = false) {P O : Nat → Nat → Option Nat} (hP : laP P) (I A : Nat → Nat → Int32) (J : Nat → Nat → Int64) {pl : List Nat} (hB : inB pl) (x : Int32) (hx : stdI x) : ConX l 4 yX11_checkKnown cX11_checkKnown 2 none [.ref 100, .int x] (mC P O I A J) pl 1 6 (fun r σ' pl' => r = none ∧ σ' = mC P O I A J ∧ pl = pl' ∧ nI (pipS x.toNatClampNeg) ≤ I 100 10) (fun E σ' pl' => E = "java/lang/IllegalStateException" ∧ σ' = mC P O I A J ∧ pl = pl' ∧ ¬ (nI (pipS x.toNatClampNeg) ≤ I 100 10)) := by
  obtain ⟨s, hs, rfl⟩ := std_of hx
  have hs2 : s < 2 ^ 31 := Nat.lt_trans hs.1 (by decide)
  rw [nI_clamp hs2]
  exact c_11_checkKnown l hst hP I A J hB s hs2
theorem wk_nd {O : Nat → Nat → Option Nat} {J : Nat → Nat → Int64} {b : Nat} (h : sdI O J) (hb : stnd b) : wkC O J b = ndF O b := by
  unfold wkC
  by_cases c : 0 < chV O J b 12
  · rw [if_pos c]
    rcases h.1 b hb with z | z
    · exact (ndF_0 (J := J) (fun u hu hd => h.2 b u hb hu z hd)).symm
    · exact absurd c (ch_nd z)
  · rw [if_neg c]
theorem su_pt {f g : Nat → Nat} : ∀ n, (∀ k, k < n → f k ≤ g k) → sumB f 0 n = sumB g 0 n → ∀ k, k < n → f k = g k
  | 0, _, _, k, hk => absurd hk (Nat.not_lt_zero k)
  | n + 1, h, e, k, hk => by
    have h1 : sumB f 0 n ≤ sumB g 0 n := su_leF n (fun k hk => by rw [Nat.zero_add]; exact h k (by omega))
    have h2 := h n (by omega)
    have e : sumB f 0 n + f (0 + n) = sumB g 0 n + g (0 + n) := e
    rw [Nat.zero_add] at e
    by_cases c : k = n
    · subst c; omega
    · exact su_pt n (fun k hk => h k (by omega)) (by omega) k (by omega)
theorem su_pl {f g : Nat → Nat} : ∀ n, sumB (fun k => f k + g k) 0 n = sumB f 0 n + sumB g 0 n
  | 0 => rfl
  | n + 1 => by
    have ih := su_pl (f := f) (g := g) n
    show sumB (fun k => f k + g k) 0 n + (f (0 + n) + g (0 + n)) = (sumB f 0 n + f (0 + n)) + (sumB g 0 n + g (0 + n))
    omega
theorem fK_1 {O : Nat → Nat → Option Nat} {k : Nat} (h : O 117 k = none) : freeK O k = 1 := if_pos h
theorem fK_0 {O : Nat → Nat → Option Nat} {k : Nat} (h : ¬ O 117 k = none) : freeK O k = 0 := if_neg h
theorem fK_le (O : Nat → Nat → Option Nat) (k : Nat) : freeK O k ≤ 1 := by unfold freeK; split <;> omega
theorem nK_1 {O : Nat → Nat → Option Nat} {b k : Nat} (h : O 117 k = none ∧ ∃ u, stnd u ∧ domS u b ∧ rkN u / 64 = k) : ndK O b k = 1 := if_pos h
theorem nK_0 {O : Nat → Nat → Option Nat} {b k : Nat} (h : ¬ (O 117 k = none ∧ ∃ u, stnd u ∧ domS u b ∧ rkN u / 64 = k)) : ndK O b k = 0 := if_neg h
theorem fr_pt {O O' : Nat → Nat → Option Nat} {J' : Nat → Nat → Int64} {b : Nat} (hm : ∀ k, k < 848 → O 117 k ≠ none → O' 117 k ≠ none) (hb : stnd b) (hs : sdI O' J') (hd : dnC O' J' b) (e : frT O' + ndF O b = frT O) : ∀ k, k < 848 → freeK O' k + ndK O b k = freeK O k := by
  refine su_pt (f := fun k => freeK O' k + ndK O b k) (g := freeK O) 848 (fun k hk => ?_) (by rw [su_pl]; exact e)
  show freeK O' k + ndK O b k ≤ freeK O k
  by_cases c : O 117 k = none
  · rw [fK_1 c]
    by_cases c2 : ∃ u, stnd u ∧ domS u b ∧ rkN u / 64 = k
    · rw [nK_1 ⟨c, c2⟩]
      obtain ⟨u, hu, hdm, hr⟩ := c2
      have := (hs.2 b u hb hu hd hdm).1
      rw [hr] at this
      rw [fK_0 (by rw [this]; exact fun z => nomatch z)]; omega
    · rw [nK_0 (fun z => c2 z.2)]; have := fK_le O' k; omega
  · rw [fK_0 c, nK_0 (fun z => c z.1), fK_0 (hm k hk c)]; omega
noncomputable def rcK (O : Nat → Nat → Option Nat) (x y k : Nat) : Nat := @ite Nat (O 117 k = none ∧ ∃ u, stnd u ∧ (domS u x ∨ domS u y) ∧ rkN u / 64 = k) (Classical.propDecidable _) 1 0
theorem rK_1 {O : Nat → Nat → Option Nat} {x y k : Nat} (h : O 117 k = none ∧ ∃ u, stnd u ∧ (domS u x ∨ domS u y) ∧ rkN u / 64 = k) : rcK O x y k = 1 := if_pos h
theorem rK_0 {O : Nat → Nat → Option Nat} {x y k : Nat} (h : ¬ (O 117 k = none ∧ ∃ u, stnd u ∧ (domS u x ∨ domS u y) ∧ rkN u / 64 = k)) : rcK O x y k = 0 := if_neg h
noncomputable def rcF (O : Nat → Nat → Option Nat) (x y : Nat) : Nat := sumB (rcK O x y) 0 848
theorem rc_eq {O O' : Nat → Nat → Option Nat} {x y : Nat} (h : ∀ k, k < 848 → freeK O' k + ndK O x k = freeK O k) : rcF O x y = ndF O x + ndF O' y := by
  unfold rcF ndF
  rw [← su_pl]
  refine su_cg 848 (fun k hk => ?_)
  rw [Nat.zero_add]
  have e := h k hk
  show rcK O x y k = ndK O x k + ndK O' y k
  by_cases c : O 117 k = none
  · rw [fK_1 c] at e
    by_cases c2 : ∃ u, stnd u ∧ domS u x ∧ rkN u / 64 = k
    · rw [nK_1 ⟨c, c2⟩] at e ⊢
      obtain ⟨u, h1, h2, h3⟩ := c2
      rw [rK_1 ⟨c, u, h1, Or.inl h2, h3⟩]
      by_cases c3 : O' 117 k = none
      · rw [fK_1 c3] at e; omega
      · rw [nK_0 (fun z => c3 z.1)]
    · rw [nK_0 (fun z => c2 z.2)] at e ⊢
      have c3 : O' 117 k = none := by
        by_cases c3 : O' 117 k = none
        · exact c3
        · rw [fK_0 c3] at e; omega
      by_cases c4 : ∃ u, stnd u ∧ domS u y ∧ rkN u / 64 = k
      · rw [nK_1 ⟨c3, c4⟩]
        obtain ⟨u, h1, h2, h3⟩ := c4
        rw [rK_1 ⟨c, u, h1, Or.inr h2, h3⟩]
      · rw [nK_0 (fun z => c4 z.2), rK_0]
        rintro ⟨-, u, h1, h2 | h2, h3⟩
        · exact c2 ⟨u, h1, h2, h3⟩
        · exact c4 ⟨u, h1, h2, h3⟩
  · rw [fK_0 c] at e
    have c3 : ¬ O' 117 k = none := fun z => by rw [fK_1 z] at e; omega
    rw [rK_0 (fun z => c z.1), nK_0 (fun z => c z.1), nK_0 (fun z => c3 z.1)]
theorem gr.mono {P O P' O' : Nat → Nat → Option Nat} {I I' : Nat → Nat → Int32} {J J' : Nat → Nat → Int64} {pl pl' : List Nat} (h : gr P O I J pl P' O' I' J' pl') (hO : shO O pl) : ∀ k, k < 848 → O 117 k ≠ none → O' 117 k ≠ none := fun k hk h0 z => by
  obtain ⟨-, -, -, h4, h5, -⟩ := h
  rcases hO k hk with y | y
  · rcases h4 k hk with w | w
    · rw [w.1] at z; exact nomatch z
    · exact w.2.1 (h5 _ y.2.1)
  · exact h0 y.1
theorem gr.la {P O P' O' : Nat → Nat → Option Nat} {I I' : Nat → Nat → Int32} {J J' : Nat → Nat → Int64} {pl pl' : List Nat} (h : gr P O I J pl P' O' I' J' pl') (hP : laP P) : laP P' := h.1.la hP
theorem gr.b {P O P' O' : Nat → Nat → Option Nat} {I I' : Nat → Nat → Int32} {J J' : Nat → Nat → Int64} {pl pl' : List Nat} (h : gr P O I J pl P' O' I' J' pl') (hB : inB pl) : inB pl' := fun q z => h.2.2.2.2.1 q (hB q z)
theorem gr.shI {P O P' O' : Nat → Nat → Option Nat} {I I' : Nat → Nat → Int32} {J J' : Nat → Nat → Int64} {pl pl' : List Nat} (h : gr P O I J pl P' O' I' J' pl') (hI : shI I) : shI I' := fun k => by
  funext j
  rw [h.2.1 (1000 + 2 * k) j (by omega), hI k]
/-- the page, printed: u over 36^p -/
def pgC (P O : Nat → Nat → Option Nat) (I A : Nat → Nat → Int32) (J : Nat → Nat → Int64) (pl : List Nat) (u p : Nat) : Option Value → HS → List Nat → Prop := fun r σ' pl' => ∃ J2 I3 A3 J3 len, (∀ q, q ≠ 143 → q ≠ 147 → q ≠ 149 → J2 q = J q) ∧ pl = pl' ∧ σ' = mC P O I3 A3 J3 ∧ r = some (.int (nI len)) ∧ prC P O I A J2 pl (prT u p) none (mC P O I3 A3 J3) pl ∧ I3 122 1 = nI len
theorem r_11_rolls_0 {X : Ctx} {mc ms k1 k2 : Nat} (F : Fx X cX11_rolls RX11 2 18 mc ms) (S : SXX X) {Ψx : String → HS → List Nat → Prop} (T : Tx X mc ms Ψx) (hk1 : k1 + 6 ≤ mc) (hk2 : k2 + 36 ≤ ms) {P O : Nat → Nat → Option Nat} (hP : laP P) {I A : Nat → Nat → Int32} {J : Nat → Nat → Int64} {pl : List Nat} (hB : inB pl) {x1 : Int32}
    (e_1 : ¬ (stdI x1) → Ψx "java/lang/IllegalArgumentException" (mC P O I A J) pl)
    (o_2 : (stdI x1) → stdI x1)
    (e_3 : (stdI x1) → ¬ (nI (pipS x1.toNatClampNeg) ≤ (I 100 10)) → Ψx "java/lang/IllegalStateException" (mC P O I A J) pl)
    (e_4 : (stdI x1) → (nI (pipS x1.toNatClampNeg) ≤ (I 100 10)) → WA X (mC P O I A J) pl (k1 + 1 + 1) (k2 + 6 + 6) 14 [(0, .ref 100), (1, .int x1)] [.int x1, .ref 116]) :
    WA X (mC P O I A J) pl k1 k2 0 [(0, .ref 100), (1, .int x1)] [] := by
  refine a_iload_n F 1 dX11_rolls_0 rfl rfl ?_
  refine a_callSX (As := [.int x1]) (st := []) F S T (c_11_checkStand (xl X) T.1 hP I A J hB x1) ml_11_244 sm_yX11_checkStand (by decide) rfl dX11_rolls_1 (by decide) (by omega) (by omega) (hl_r (hB _ (by decide)) (hl_i hl_nil)) hs_nil (by rintro _ _ _ ⟨rfl, rfl, rfl, c⟩ _; exact e_1 c) ?_
  rintro _ _ _ ⟨rfl, rfl, rfl, c_1⟩ _
  show WA X (mC P O I A J) pl (k1 + 1) (k2 + 6) 4 [(0, .ref 100), (1, .int x1)] []
  refine a_aload_n F 0 dX11_rolls_4 rfl rfl ?_
  refine a_iload_n F 1 dX11_rolls_5 rfl rfl ?_
  refine a_callVX (b := 100) (As := [.int x1]) (st := []) (ci := 11) F S T (c_11_checkKnownI (xl X) T.1 hP I A J hB x1 (o_2 c_1)) ml_11_247 im_yX11_checkKnown se_yX11_checkKnown (by decide) (by decide) rfl (hB _ (by decide)) rfl rfl dX11_rolls_6 (by decide) (by omega) (by omega) (hl_r (hB _ (by decide)) (hl_i hl_nil)) hs_nil (by rintro _ _ _ ⟨rfl, rfl, rfl, c⟩ _; exact e_3 c_1 c) ?_
  rintro _ _ _ ⟨rfl, rfl, rfl, c_2⟩ _
  show WA X (mC P O I A J) pl (k1 + 1 + 1) (k2 + 6 + 6) 9 [(0, .ref 100), (1, .int x1)] []
  refine a_aload_n F 0 dX11_rolls_9 rfl rfl ?_
  refine a_getr (b := 116) F fl_11_70 rfl (hB _ (by decide)) rfl ((hP 100 8 (by decide)).trans rfl) dX11_rolls_10 ?_
  refine a_iload_n F 1 dX11_rolls_13 rfl rfl ?_
  exact e_4 c_1 c_2

theorem r_11_rolls_17b {X : Ctx} {mc ms k1 k2 : Nat} (F : Fx X cX11_rolls RX11 2 18 mc ms) (S : SXX X) {Ψx : String → HS → List Nat → Prop} (T : Tx X mc ms Ψx) (hk1 : k1 + 6 ≤ mc) (hk2 : k2 + 36 ≤ ms) {P O : Nat → Nat → Option Nat} (hP : laP P) {I A : Nat → Nat → Int32} {J : Nat → Nat → Int64} {pl : List Nat} (hB : inB pl) {x1 : Int32}
    (e_1 : WA X (mC P O I A J) pl k1 k2 29 [(0, .ref 100), (1, .int x1)] [.ref 142, .int x1, .ref 116]) :
    WA X (mC P O I A J) pl k1 k2 17 [(0, .ref 100), (1, .int x1)] [] := by
  refine a_aload_n F 0 dX11_rolls_17 rfl rfl ?_
  refine a_getr (b := 116) F fl_11_70 rfl (hB _ (by decide)) rfl ((hP 100 8 (by decide)).trans rfl) dX11_rolls_18 ?_
  refine a_iload_n F 1 dX11_rolls_21 rfl rfl ?_
  refine a_aload_n F 0 dX11_rolls_22 rfl rfl ?_
  refine a_getr (b := 126) F fl_11_77 rfl (hB _ (by decide)) rfl ((hP 100 9 (by decide)).trans rfl) dX11_rolls_23 ?_
  refine a_getr (b := 142) F fl_11_252 rfl (hB _ (by decide)) rfl ((hP 126 3 (by decide)).trans rfl) dX11_rolls_26 ?_
  exact e_1

theorem r_11_rolls_32c {X : Ctx} {mc ms k1 k2 : Nat} (F : Fx X cX11_rolls RX11 2 18 mc ms) (S : SXX X) {Ψx : String → HS → List Nat → Prop} (T : Tx X mc ms Ψx) (hk1 : k1 + 6 ≤ mc) (hk2 : k2 + 36 ≤ ms) {P O : Nat → Nat → Option Nat} (hP : laP P) {I A : Nat → Nat → Int32} {J : Nat → Nat → Int64} {pl : List Nat} (hB : inB pl) {x1 : Int32}
    (e_1 : WA X (mC P O I A J) pl k1 k2 38 [(0, .ref 100), (1, .int x1)] [.int 32, .ref 126]) :
    WA X (mC P O I A J) pl k1 k2 32 [(0, .ref 100), (1, .int x1)] [] := by
  refine a_aload_n F 0 dX11_rolls_32 rfl rfl ?_
  refine a_getr (b := 126) F fl_11_77 rfl (hB _ (by decide)) rfl ((hP 100 9 (by decide)).trans rfl) dX11_rolls_33 ?_
  refine a_bipush (v := 32) F dX11_rolls_36 (by decide) ?_
  exact e_1

theorem r_11_rolls_41d {X : Ctx} {mc ms k1 k2 : Nat} (F : Fx X cX11_rolls RX11 2 18 mc ms) (S : SXX X) {Ψx : String → HS → List Nat → Prop} (T : Tx X mc ms Ψx) (hk1 : k1 + 6 ≤ mc) (hk2 : k2 + 36 ≤ ms) {Φ : Option Value → HS → List Nat → Prop} (E : Ex X (some .int) mc ms Φ) {P O : Nat → Nat → Option Nat} (hP : laP P) {I A : Nat → Nat → Int32} {J : Nat → Nat → Int64} {pl : List Nat} (hB : inB pl) {x1 : Int32}
    (e_1 : Φ (some (.int (I 122 1))) (mC P O I A J) pl) :
    WA X (mC P O I A J) pl k1 k2 41 [(0, .ref 100), (1, .int x1)] [] := by
  refine a_aload_n F 0 dX11_rolls_41 rfl rfl ?_
  refine a_getr (b := 122) F fl_11_16 rfl (hB _ (by decide)) rfl ((hP 100 1 (by decide)).trans rfl) dX11_rolls_42 ?_
  refine a_geti F fl_11_84 rfl (hB _ (by decide)) rfl dX11_rolls_45 ?_
  exact a_iret F E dX11_rolls_48 (by omega) (by omega) (e_1)

set_option maxRecDepth 10000 in
theorem c_11_rolls (l : Launch) (hst : l.stackTraces = false) {P O : Nat → Nat → Option Nat} (hP : laP P) (I A : Nat → Nat → Int32) (J : Nat → Nat → Int64) {pl : List Nat} (hB : inB pl) (x : Int32) (hF : laF P) (hS : shI I) (hO : shO O pl) (ht : rkT (A 118)) (hC : clC P O pl) (hT : pwT J) (hsd : sdI O J) (hdg : digW (J 141) 6) : ConX l 18 yX11_rolls cX11_rolls 2 (some .int) [.ref 100, .int x] (mC P O I A J) pl (9 + gN (stdI x ∧ nI (pipS x.toNatClampNeg) ≤ I 100 10) (2 * ndF O x.toNatClampNeg)) (80 + gN (stdI x ∧ nI (pipS x.toNatClampNeg) ≤ I 100 10) (1153 * ndF O x.toNatClampNeg)) (fun r σ' pl' => stdI x ∧ nI (pipS x.toNatClampNeg) ≤ I 100 10 ∧ ∃ P1 O1 I1 J1, woQ P O I A J pl x.toNatClampNeg none (mC P1 O1 I1 A J1) pl' ∧ pgC P1 O1 I1 A J1 pl' (eF 32 x.toNatClampNeg) 32 r σ' pl') (fun E σ' pl' => σ' = mC P O I A J ∧ pl = pl' ∧ ((E = "java/lang/IllegalArgumentException" ∧ ¬ stdI x) ∨ (E = "java/lang/IllegalStateException" ∧ stdI x ∧ ¬ nI (pipS x.toNatClampNeg) ≤ I 100 10))) := by
  refine ConX.of hst (by decide) (Nat.le_of_ble_eq_true rfl) (fun X hX9 hn9 F E S T => ?_)
  refine r_11_rolls_0 F S T (by omega) (by omega) hP hB (fun h => ⟨rfl, rfl, Or.inl ⟨rfl, h⟩⟩) (fun h => h) (fun h1 h2 => ⟨rfl, rfl, Or.inr ⟨rfl, h1, h2⟩⟩) (fun h1 h2 => ?_)
  obtain ⟨s, hs, rfl⟩ := std_of h1
  have hs2 : s < 2 ^ 31 := Nat.lt_trans hs.1 (by decide)
  have es : (nI s).toNatClampNeg = s := nI_clamp hs2
  rw [gN_t ⟨h1, h2⟩, gN_t ⟨h1, h2⟩] at F E T
  rw [es] at F E T h2
  have hwk := wk_nd hsd hs
  rw [← hwk] at F E T
  refine a_callVS (b := 116) (As := [.int (nI s)]) (st := []) (ci := 8) F S.1 (c_8_workOut (xl X) hP I A J hB s hF hS hO hs ht hC hT hsd) ml_11_250 im_yX8_workOut se_yX8_workOut (by decide) (by decide) rfl (hB _ (by decide)) rfl rfl dX11_rolls_14 (by decide) (by omega) (by omega) (hl_r (hB _ (by decide)) (hl_i hl_nil)) hs_nil ?_
  rintro r1 σ1 pl1 ⟨rfl, P1, O1, I1, J1, rfl, hg, hsd1, hdn, hfr⟩ _
  have hP1 := hg.la hP
  have hB1 := hg.b hB
  refine r_11_rolls_17b F S T (by omega) (by omega) hP1 hB1 ?_
  refine a_callV (b := 116) (As := [.int (nI s), .ref 142]) (st := []) (ci := 8) F (c_8_putRolls (xl X) hP1 I1 A J1 hB1 s hg.2.2.2.1 hs ht hdn) ml_11_256 im_yX8_putRolls se_yX8_putRolls (by decide) (by decide) rfl (hB1 _ (by decide)) rfl rfl dX11_rolls_29 (by decide) (by omega) (by omega) (hl_r (hB1 _ (by decide)) (hl_i hl_nil)) hs_nil ?_
  rintro r2 σ2 pl2 ⟨rfl, rfl, J2, rfl, hJ2, hd2, hv2⟩ _
  refine r_11_rolls_32c F S T (by omega) (by omega) hP1 hB1 ?_
  have hd4 : digW (J2 141) 6 := by rw [hJ2 141 (by decide) (by decide) (by decide), hg.2.2.2.2.2.2.2.1 141 (by decide) (by decide) (by decide)]; exact hdg
  refine a_callV (b := 126) (As := [.int (nI 32)]) (st := []) (ci := 4) F (c_4_print (xl X) hP1 I1 A J2 hB1 32 (by decide) hd2 hd4) ml_11_260 im_yX4_print se_yX4_print (by decide) (by decide) rfl (hB1 _ (by decide)) rfl rfl dX11_rolls_38 (by decide) (by omega) (by omega) (hl_r (hB1 _ (by decide)) (hl_i hl_nil)) hs_nil ?_
  intro r3 σ3 pl3 hpr _
  have hpr' := hpr
  obtain ⟨I3, A3, J3, len, txt, rfl, rfl, rfl, hI3, hlen, hrest⟩ := hpr
  refine r_11_rolls_41d F S T (by omega) (by omega) E hP1 hB1 ?_
  rw [hv2] at hpr'
  exact ⟨h1, h2, P1, O1, I1, J1, ⟨rfl, P1, O1, I1, J1, rfl, hg, hsd1, hdn, hfr⟩, J2, I3, A3, J3, len, hJ2, rfl, rfl, by rw [hlen], hpr', hlen⟩
