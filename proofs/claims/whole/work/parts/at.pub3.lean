/-! public methods: position, back, choose, plays, result, way -/
def invC (P O : Nat → Nat → Option Nat) (I A : Nat → Nat → Int32) (J : Nat → Nat → Int64) (pl : List Nat) (g : Nat) : Prop := laP P ∧ inB pl ∧ laF P ∧ clC P O pl ∧ bdO O pl ∧ shO O pl ∧ shI I ∧ rkT (A 118) ∧ pwT J ∧ sdI O J ∧ digW (J 141) 6 ∧ digW (J 143) 6 ∧ rtP P pl g
theorem rtM.up {pl pl' : List Nat} {g : Nat} (h : rtM pl g) (h1 : ∀ q, q ∈ pl → q ∈ pl') (h2 : ∀ q, q ∈ pl' → q ∈ pl ∨ q < 300 ∨ 314 ≤ q) : rtM pl' g := ⟨h.1, fun j hj => ⟨fun z => ⟨h1 _ ((h.2 j hj).1 z).1, h1 _ ((h.2 j hj).1 z).2⟩, fun z => ⟨fun y => by
  rcases h2 _ y with y | y | y
  · exact ((h.2 j hj).2 z).1 y
  · omega
  · omega, fun y => by
  rcases h2 _ y with y | y | y
  · exact ((h.2 j hj).2 z).2 y
  · omega
  · omega⟩⟩⟩
def posC (P O : Nat → Nat → Option Nat) (I A : Nat → Nat → Int32) (J : Nat → Nat → Int64) (pl : List Nat) (L c : Nat) (res : Except (Nat × Nat) (Nat × (Nat → Nat))) : Option Value → HS → List Nat → Prop := fun r σ' pl' => ∃ I1 A1, FrT I I1 ∧ (∀ q, q ≠ 133 → A1 q = A q) ∧
  match res with
  | .error fp => r = some (.int (nI fp.1)) ∧ I1 104 7 = nI fp.1 ∧ I1 104 8 = nI fp.2 ∧ σ' = mC P O (up2 I1 120 1 0) A1 J ∧ pl = pl'
  | .ok wr => r = some (.int 0) ∧ I1 104 7 = 0 ∧ I1 104 8 = -1 ∧ wr.1 ≤ 1 ∧ I1 132 1 = nI wr.1 ∧ (∃ al, rdB (A1 133) wr.2 al ∧ sumA wr.2 al) ∧ ∃ O2 I2 A2, kpQ P O I1 A1 J pl 130 L c none (mC P O2 I2 A2 J) pl' ∧ σ' = mC P O2 (up2 (up2 (up2 I2 130 1 (I2 132 1)) 110 7 0) 120 1 0) (up1 A2 131 (va_cpy (A2 133) (A2 131) 0 0 52)) J
theorem r_11_position_0 {X : Ctx} {mc ms k1 k2 : Nat} (F : Fx X cX11_position RX11 2 18 mc ms) (S : SXX X) {Ψx : String → HS → List Nat → Prop} (T : Tx X mc ms Ψx) (hk1 : k1 + 6 ≤ mc) (hk2 : k2 + 36 ≤ ms) {P O : Nat → Nat → Option Nat} (hP : laP P) {I A : Nat → Nat → Int32} {J : Nat → Nat → Int64} {pl : List Nat} (hB : inB pl) {x1 : Int32}
    (e_1 : ¬ (0 ≤ x1 ∧ x1 ≤ (I 120 1)) → Ψx "java/lang/IllegalArgumentException" (mC P O I A J) pl)
    (e_2 : (0 ≤ x1 ∧ x1 ≤ (I 120 1)) → (undC I) → Ψx "java/lang/IllegalStateException" (mC P O I A J) pl)
    (e_3 : (0 ≤ x1 ∧ x1 ≤ (I 120 1)) → (¬ (undC I)) → WA X (mC P O I A J) pl (k1 + 1) (k2 + 6) 30 [(0, .ref 100), (1, .int x1)] [.int x1, .ref 106]) :
    WA X (mC P O I A J) pl k1 k2 0 [(0, .ref 100), (1, .int x1)] [] := by
  refine a_aload_n F 0 dX11_position_0 rfl rfl ?_
  refine a_iload_n F 1 dX11_position_1 rfl rfl ?_
  refine a_callVX (b := 100) (As := [.int x1]) (st := []) (ci := 11) F S T (c_11_checkLength (xl X) T.1 hP I A J hB x1) ml_11_92 im_yX11_checkLength se_yX11_checkLength (by decide) (by decide) rfl (hB _ (by decide)) rfl rfl dX11_position_2 (by decide) (by omega) (by omega) (hl_r (hB _ (by decide)) (hl_i hl_nil)) hs_nil (by rintro _ _ _ ⟨rfl, rfl, rfl, c⟩ _; exact e_1 c) ?_
  rintro _ _ _ ⟨rfl, rfl, rfl, c_1⟩ _
  show WA X (mC P O I A J) pl (k1 + 1) (k2 + 6) 5 [(0, .ref 100), (1, .int x1)] []
  refine a_aload_n F 0 dX11_position_5 rfl rfl ?_
  refine a_getr (b := 114) F fl_11_63 rfl (hB _ (by decide)) rfl ((hP 100 7 (by decide)).trans rfl) dX11_position_6 ?_
  refine a_callV (b := 114) (As := []) (st := []) (ci := 2) F (c_2_isUnderWay (xl X) hP I A J hB) ml_11_95 im_yX2_isUnderWay se_yX2_isUnderWay (by decide) (by decide) rfl (hB _ (by decide)) rfl rfl dX11_position_9 (by decide) (by omega) (by omega) (hl_r (hB _ (by decide)) (hl_i hl_nil)) hs_nil ?_
  rintro _ _ _ ⟨rfl, rfl, rfl⟩ _
  show WA X (mC P O I A J) pl (k1 + 1) (k2 + 6) 12 [(0, .ref 100), (1, .int x1)] [.int (@ite Int32 (undC I) (Classical.propDecidable _) 1 0)]
  refine a_ite (fun (c_2 : undC I) => ?_) (fun (c_2 : ¬ (undC I)) => ?_)
  · refine a_if_eq (tgt := 25) F dX11_position_12 (by decide) (fun (c_3 : (1 : Int32) = 0) => ?_) (fun (c_3 : ¬ ((1 : Int32) = 0)) => ?_)
    · exact absurd c_3 (by decide)
    · exact a_throwS F S T (TW.m103 (List.mem_of_getElem? (i := 1) rfl)) (by decide) dX11_position_15 dX11_position_18 dX11_position_19 dX11_position_21 dX11_position_24 (by omega) (by omega) (by decide) (e_2 c_1 c_2)
  · refine a_if_eq (tgt := 25) F dX11_position_12 (by decide) (fun (c_4 : (0 : Int32) = 0) => ?_) (fun (c_4 : ¬ ((0 : Int32) = 0)) => ?_)
    · refine a_aload_n F 0 dX11_position_25 rfl rfl ?_
      refine a_getr (b := 106) F fl_11_47 rfl (hB _ (by decide)) rfl ((hP 100 5 (by decide)).trans rfl) dX11_position_26 ?_
      refine a_iload_n F 1 dX11_position_29 rfl rfl ?_
      exact e_3 c_1 c_2
    · exact absurd c_4 (by decide)

theorem r_11_position_33b {X : Ctx} {mc ms k1 k2 : Nat} (F : Fx X cX11_position RX11 2 18 mc ms) (S : SXX X) {Ψx : String → HS → List Nat → Prop} (T : Tx X mc ms Ψx) (hk1 : k1 + 6 ≤ mc) (hk2 : k2 + 36 ≤ ms) {Φ : Option Value → HS → List Nat → Prop} (E : Ex X (some .int) mc ms Φ) {P O : Nat → Nat → Option Nat} (hP : laP P) {I A : Nat → Nat → Int32} {J : Nat → Nat → Int64} {pl : List Nat} (hB : inB pl) {x1 z9 : Int32}
    (e_1 : (z9 = 0) → Φ (some (.int (I 104 7))) (mC P O (up2 I 120 1 0) A J) pl)
    (e_2 : (¬ (z9 = 0)) → WA X (mC P O I A J) pl k1 k2 44 [(0, .ref 100), (1, .int x1)] [.ref 130, .ref 102]) :
    WA X (mC P O I A J) pl k1 k2 33 [(0, .ref 100), (1, .int x1)] [.int z9] := by
  refine a_if_eq (tgt := 68) F dX11_position_33 (by decide) (fun (c_5 : z9 = 0) => ?_) (fun (c_5 : ¬ (z9 = 0)) => ?_)
  · refine a_aload_n F 0 dX11_position_68 rfl rfl ?_
    refine a_getr (b := 120) F fl_11_10 rfl (hB _ (by decide)) rfl ((hP 100 0 (by decide)).trans rfl) dX11_position_69 ?_
    refine a_iconst (v := 0) F dX11_position_72 (by decide) ?_
    refine a_puti F fl_11_84 rfl rfl rfl rfl (hB _ (by decide)) rfl dX11_position_73 ?_
    refine a_aload_n F 0 dX11_position_76 rfl rfl ?_
    refine a_getr (b := 104) F fl_11_38 rfl (hB _ (by decide)) rfl ((hP 100 4 (by decide)).trans rfl) dX11_position_77 ?_
    refine a_geti F fl_11_120 rfl (hB _ (by decide)) rfl dX11_position_80 ?_
    exact a_iret F E dX11_position_83 (by omega) (by omega) (e_1 c_5)
  · refine a_aload_n F 0 dX11_position_36 rfl rfl ?_
    refine a_getr (b := 102) F fl_11_29 rfl (hB _ (by decide)) rfl ((hP 100 3 (by decide)).trans rfl) dX11_position_37 ?_
    refine a_aload_n F 0 dX11_position_40 rfl rfl ?_
    refine a_getr (b := 130) F fl_11_22 rfl (hB _ (by decide)) rfl ((hP 100 2 (by decide)).trans rfl) dX11_position_41 ?_
    exact e_2 c_5

theorem r_11_position_47c {X : Ctx} {mc ms k1 k2 : Nat} (F : Fx X cX11_position RX11 2 18 mc ms) (S : SXX X) {Ψx : String → HS → List Nat → Prop} (T : Tx X mc ms Ψx) (hk1 : k1 + 6 ≤ mc) (hk2 : k2 + 36 ≤ ms) {P O : Nat → Nat → Option Nat} (hP : laP P) {I A : Nat → Nat → Int32} {J : Nat → Nat → Int64} {pl : List Nat} (hB : inB pl) {x1 : Int32}
    (e_1 : WA X (mC P O (up2 I 130 1 (I 132 1)) (up1 A 131 (va_cpy (A 133) (A 131) 0 0 52)) J) pl k1 k2 65 [(0, .ref 100), (1, .int x1)] [.ref 110]) :
    WA X (mC P O I A J) pl k1 k2 47 [(0, .ref 100), (1, .int x1)] [] := by
  refine a_aload_n F 0 dX11_position_47 rfl rfl ?_
  refine a_getr (b := 130) F fl_11_22 rfl (hB _ (by decide)) rfl ((hP 100 2 (by decide)).trans rfl) dX11_position_48 ?_
  refine a_aload_n F 0 dX11_position_51 rfl rfl ?_
  refine a_getr (b := 106) F fl_11_47 rfl (hB _ (by decide)) rfl ((hP 100 5 (by decide)).trans rfl) dX11_position_52 ?_
  refine a_getr (b := 132) F fl_11_113 rfl (hB _ (by decide)) rfl ((hP 106 1 (by decide)).trans rfl) dX11_position_55 ?_
  refine a_callV (b := 130) (As := [.ref 132]) (st := []) (ci := 0) F (c_0_copyFrom (xl X) hP I A J hB 130 rfl (hB _ (by decide)) (hB _ (by decide)) 132 rfl (hB _ (by decide)) (hB _ (by decide))) ml_11_114 im_yX0_copyFrom se_yX0_copyFrom (by decide) (by decide) rfl (hB _ (by decide)) rfl rfl dX11_position_58 (by decide) (by omega) (by omega) (hl_r (hB _ (by decide)) (hl_i hl_nil)) hs_nil ?_
  rintro _ _ _ ⟨rfl, rfl, rfl⟩ _
  show WA X (mC P O (up2 I 130 1 (I 132 1)) (up1 A 131 (va_cpy (A 133) (A 131) 0 0 52)) J) pl k1 k2 61 [(0, .ref 100), (1, .int x1)] []
  refine a_aload_n F 0 dX11_position_61 rfl rfl ?_
  refine a_getr (b := 110) F fl_11_56 rfl (hB _ (by decide)) rfl ((hP 100 6 (by decide)).trans rfl) dX11_position_62 ?_
  exact e_1

theorem r_11_position_68d {X : Ctx} {mc ms k1 k2 : Nat} (F : Fx X cX11_position RX11 2 18 mc ms) (S : SXX X) {Ψx : String → HS → List Nat → Prop} (T : Tx X mc ms Ψx) (hk1 : k1 + 6 ≤ mc) (hk2 : k2 + 36 ≤ ms) {Φ : Option Value → HS → List Nat → Prop} (E : Ex X (some .int) mc ms Φ) {P O : Nat → Nat → Option Nat} (hP : laP P) {I A : Nat → Nat → Int32} {J : Nat → Nat → Int64} {pl : List Nat} (hB : inB pl) {x1 : Int32}
    (e_1 : Φ (some (.int (I 104 7))) (mC P O (up2 I 120 1 0) A J) pl) :
    WA X (mC P O I A J) pl k1 k2 68 [(0, .ref 100), (1, .int x1)] [] := by
  refine a_aload_n F 0 dX11_position_68 rfl rfl ?_
  refine a_getr (b := 120) F fl_11_10 rfl (hB _ (by decide)) rfl ((hP 100 0 (by decide)).trans rfl) dX11_position_69 ?_
  refine a_iconst (v := 0) F dX11_position_72 (by decide) ?_
  refine a_puti F fl_11_84 rfl rfl rfl rfl (hB _ (by decide)) rfl dX11_position_73 ?_
  refine a_aload_n F 0 dX11_position_76 rfl rfl ?_
  refine a_getr (b := 104) F fl_11_38 rfl (hB _ (by decide)) rfl ((hP 100 4 (by decide)).trans rfl) dX11_position_77 ?_
  refine a_geti F fl_11_120 rfl (hB _ (by decide)) rfl dX11_position_80 ?_
  exact a_iret F E dX11_position_83 (by omega) (by omega) (e_1)

set_option maxRecDepth 10000 in
theorem c_11_position (l : Launch) (hst : l.stackTraces = false) {P O : Nat → Nat → Option Nat} (hP : laP P) (I A : Nat → Nat → Int32) (J : Nat → Nat → Int64) {pl : List Nat} (hB : inB pl) (x : Int32) (sz hd c : Nat) (hsz : sz ≤ 400) (h3 : I 120 1 = nI sz) (hF : laF P) (hC : clC P O pl) (hO : bdO O pl) (hhd : hd < 8) (hc : c ≤ 8) (h1' : I 102 1 = nI hd) (h2' : I 102 2 = nI c) {m : Nat} {τ : TB} (ht : tbS P I A J pl m τ) : ConX l 18 yX11_position cX11_position 2 (some .int) [.ref 100, .int x] (mC P O I A J) pl 10 100 (fun r σ' pl' => (0 ≤ x ∧ x ≤ I 120 1) ∧ ¬ undC I ∧ posC P O I A J pl ((hd + 1) % 8) c (posF (A 121) x.toNatClampNeg) r σ' pl') (fun E σ' pl' => σ' = mC P O I A J ∧ pl = pl' ∧ ((E = "java/lang/IllegalArgumentException" ∧ ¬ (0 ≤ x ∧ x ≤ I 120 1)) ∨ (E = "java/lang/IllegalStateException" ∧ (0 ≤ x ∧ x ≤ I 120 1) ∧ undC I))) := by
  refine ConX.of hst (by decide) (Nat.le_of_ble_eq_true rfl) (fun X hX9 hn9 F E S T => ?_)
  refine r_11_position_0 F S T (by decide) (by decide) hP hB (fun h => ⟨rfl, rfl, Or.inl ⟨rfl, h⟩⟩) (fun h1 h2 => ⟨rfl, rfl, Or.inr ⟨rfl, h1, h2⟩⟩) (fun h1 h2 => ?_)
  obtain ⟨n, hnt, em⟩ := nI_of2 (x := x) (M := nI sz) (n := sz) (nI_toInt (by omega)) (by grind) (by rw [← h3]; grind)
  subst em
  have en : (nI n).toNatClampNeg = n := nI_clamp (by omega)
  refine a_callV (b := 106) (As := [.int (nI n)]) (st := []) (ci := 9) F (c_9_parsePosition (xl X) hP I A J hB n sz hnt hsz h3) ml_11_106 im_yX9_parsePosition se_yX9_parsePosition (by decide) (by decide) rfl (hB _ (by decide)) rfl rfl dX11_position_30 (by decide) (by omega) (by omega) (hl_r (hB _ (by decide)) (hl_i hl_nil)) hs_nil ?_
  rintro r1 σ1 pl1 ⟨rfl, I1, A1, rfl, hF1, hA1, hm⟩ _
  have hE : ∀ r σ' pl', posC P O I A J pl ((hd + 1) % 8) c (posF (A 121) (nI n).toNatClampNeg) r σ' pl' → (fun r σ' pl' => (0 ≤ nI n ∧ nI n ≤ I 120 1) ∧ ¬ undC I ∧ posC P O I A J pl ((hd + 1) % 8) c (posF (A 121) (nI n).toNatClampNeg) r σ' pl') r σ' pl' := fun r σ' pl' h => ⟨h1, h2, h⟩
  have E' := E.imp hE
  rw [en] at E'
  have e102 : ∀ k, I1 102 k = I 102 k := fun k => hF1 102 k (by omega) (by decide) (by decide)
  generalize posF (A 121) n = res at hm E'
  cases res with
  | error fp =>
    obtain ⟨rfl, h7, h8⟩ := hm
    refine r_11_position_33b F S T (by omega) (by omega) E' hP hB (fun _ => ?_) (fun z => absurd rfl z)
    exact ⟨I1, A1, hF1, hA1, by rw [h7], h7, h8, rfl, rfl⟩
  | ok wr =>
    obtain ⟨rfl, h7, h8, hw1, hw2, hal⟩ := hm
    refine r_11_position_33b F S T (by omega) (by omega) E' hP hB (fun z => absurd z (by decide)) (fun _ => ?_)
    refine a_callVS (b := 102) (As := [.ref 130]) (st := []) (ci := 3) F S.1 (c_3_keep (xl X) hP I1 A1 J hB 130 rfl (hB _ (by decide)) (hB _ (by decide)) hd c hF hC hO hhd hc ((e102 1).trans h1') ((e102 2).trans h2') (by decide)) ml_11_110 im_yX3_keep se_yX3_keep (by decide) (by decide) rfl (hB _ (by decide)) rfl rfl dX11_position_44 (by decide) (by omega) (by omega) (hl_r (hB _ (by decide)) (hl_i hl_nil)) hs_nil ?_
    rintro r2 σ2 pl2 hk hsub
    obtain ⟨rfl, O2, I2, A2, rfl, hk2⟩ := hk
    have hB2 : inB pl2 := fun q hq => hsub q (hB q hq)
    refine r_11_position_47c F S T (by omega) (by omega) hP hB2 ?_
    have i110 : ∀ k, I2 110 k = I 110 k := fun k => by rw [hk2.2.2.2.2.2.2.2.2.1 110 k (by decide) (by omega)]; exact hF1 110 k (by omega) (by decide) (by decide)
    have aR : ∀ q, q ≠ 201 + 2 * ((hd + 1) % 8) → q ≠ 133 → A2 q = A q := fun q h1 h2 => by rw [hk2.2.2.2.2.2.2.2.2.2.2.1 q h1]; exact hA1 q h2
    have ht2 : tbS P (up2 I2 130 1 (I2 132 1)) (up1 A2 131 (va_cpy (A2 133) (A2 131) 0 0 52)) J pl2 m τ := by
      have h0 : tbS P I A J pl2 m τ := ⟨ht.1.up hsub (fun q hq => (hk2.2.2.2.1 q hq).imp id (fun z => Or.inl (by omega))), ht.2⟩
      refine h0.cg (fun k _ _ => by rw [up2_p (by decide)]; exact i110 k) ?_ rfl
      rw [up1_p (by omega)]
      exact aR _ (by omega) (by omega)
    refine a_callV (b := 110) (As := []) (st := []) (ci := 6) F (c_6_forget (xl X) hP (up2 I2 130 1 (I2 132 1)) (up1 A2 131 (va_cpy (A2 133) (A2 131) 0 0 52)) J hB2 m τ ht2) ml_11_117 im_yX6_forget se_yX6_forget (by decide) (by decide) rfl (hB2 _ (by decide)) rfl rfl dX11_position_65 (by decide) (by omega) (by omega) (hl_r (hB2 _ (by decide)) (hl_i hl_nil)) hs_nil ?_
    rintro _ _ _ ⟨rfl, rfl, rfl⟩ _
    refine r_11_position_68d F S T (by omega) (by omega) E' hP hB2 ?_
    refine ⟨I1, A1, hF1, hA1, ?_, h7, h8, hw1, hw2, hal, O2, I2, A2, ⟨rfl, O2, I2, A2, rfl, hk2⟩, rfl⟩
    show some (Value.int (I2 104 7)) = some (Value.int 0)
    rw [hk2.2.2.2.2.2.2.2.2.1 104 7 (by decide) (by omega), h7]
