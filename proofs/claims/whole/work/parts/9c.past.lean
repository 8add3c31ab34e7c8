def laF (P : Nat → Nat → Option Nat) : Prop := ∀ p, hoC p = true → P p = fun k => if k = 0 then some (p + 1) else none
theorem kC_b : ∀ i, i < 8 → kC (200 + 2 * i) = 0 ∧ kC (201 + 2 * i) = 13 ∧ hoC (200 + 2 * i) = true := by decide
/-- the kept boards -/
def bdO (O : Nat → Nat → Option Nat) (pl : List Nat) : Prop := ∀ i, i < 8 → (O 103 i = some (200 + 2 * i) ∧ 200 + 2 * i ∈ pl ∧ 201 + 2 * i ∈ pl) ∨ (O 103 i = none ∧ 200 + 2 * i ∉ pl ∧ 201 + 2 * i ∉ pl)
theorem rem8 {n : Nat} (h : n < 2 ^ 31) : nI n - nI n / 8 * 8 = nI (n % 8) := pk_rem (d := 8) h (by decide) (by decide)
def kpQ (P O : Nat → Nat → Option Nat) (I A : Nat → Nat → Int32) (J : Nat → Nat → Int64) (pl : List Nat) (q1 L c : Nat) : Option Value → HS → List Nat → Prop := fun r σ' pl' => r = none ∧ ∃ O' I' A', σ' = mC P O' I' A' J ∧ clC P O' pl' ∧ bdO O' pl' ∧ (∀ q, q ∈ pl → q ∈ pl') ∧ (∀ q, q ∈ pl' → q ∈ pl ∨ q = 200 + 2 * L ∨ q = 201 + 2 * L) ∧ (∀ q, q ≠ 103 → O' q = O q) ∧ I' 102 1 = nI L ∧ I' 102 2 = nI (min (c + 1) 8) ∧ I' (200 + 2 * L) 1 = I q1 1 ∧ (∀ q k, q ≠ 102 → q ≠ 200 + 2 * L → I' q k = I q k) ∧ (∀ j, j < 52 → A' (201 + 2 * L) j = A (q1 + 1) j) ∧ (∀ q, q ≠ 201 + 2 * L → A' q = A q) ∧ O' 103 L = some (200 + 2 * L) ∧ ∀ i, i ≠ L → O' 103 i = O 103 i

theorem r_3_keep_0 {X : Ctx} {mc ms k1 k2 : Nat} (F : Fx X cX3_keep RX3 2 3 mc ms) (hk1 : k1 ≤ mc) (hk2 : k2 ≤ ms) {P O : Nat → Nat → Option Nat} (hP : laP P) {I A : Nat → Nat → Int32} {J : Nat → Nat → Int64} {pl : List Nat} (hB : inB pl) {q1 : Nat} (hk_q1 : kC q1 = 0) (hp_q1 : q1 ∈ pl) (hq_q1 : q1 + 1 ∈ pl)
    (e_1 : WA X (mC P O (up2 I 102 1 (((I 102 1) + 1) - ((I 102 1) + 1) / 8 * 8)) A J) pl k1 k2 21 [(0, .ref 102), (1, .ref q1)] [.int (((I 102 1) + 1) - ((I 102 1) + 1) / 8 * 8), .ref 103]) :
    WA X (mC P O I A J) pl k1 k2 0 [(0, .ref 102), (1, .ref q1)] [] := by
  refine a_aload_n F 0 dX3_keep_0 rfl rfl ?_
  refine a_aload_n F 0 dX3_keep_1 rfl rfl ?_
  refine a_geti F fl_3_15 rfl (hB _ (by decide)) rfl dX3_keep_2 ?_
  refine a_iconst (v := 1) F dX3_keep_5 (by decide) ?_
  refine a_iadd F dX3_keep_6 ?_
  refine a_bipush (v := 8) F dX3_keep_7 (by decide) ?_
  refine a_irem F dX3_keep_9 (by decide) ?_
  refine a_puti F fl_3_15 rfl rfl rfl rfl (hB _ (by decide)) rfl dX3_keep_10 ?_
  refine a_aload_n F 0 dX3_keep_13 rfl rfl ?_
  refine a_getr (b := 103) F fl_3_11 rfl (hB _ (by decide)) rfl ((hP 102 0 (by decide)).trans rfl) dX3_keep_14 ?_
  refine a_aload_n F 0 dX3_keep_17 rfl rfl ?_
  refine a_geti F fl_3_15 rfl (hB _ (by decide)) rfl dX3_keep_18 ?_
  exact e_1

theorem r_3_keep_41 {X : Ctx} {mc ms k1 k2 : Nat} (F : Fx X cX3_keep RX3 2 3 mc ms) (hk1 : k1 ≤ mc) (hk2 : k2 ≤ ms) {P O : Nat → Nat → Option Nat} (hP : laP P) {I A : Nat → Nat → Int32} {J : Nat → Nat → Int64} {pl : List Nat} (hB : inB pl) {q1 : Nat} (hk_q1 : kC q1 = 0) (hp_q1 : q1 ∈ pl) (hq_q1 : q1 + 1 ∈ pl)
    (e_1 : WA X (mC P O I A J) pl k1 k2 49 [(0, .ref 102), (1, .ref q1)] [.int (I 102 1), .ref 103]) :
    WA X (mC P O I A J) pl k1 k2 41 [(0, .ref 102), (1, .ref q1)] [] := by
  refine a_aload_n F 0 dX3_keep_41 rfl rfl ?_
  refine a_getr (b := 103) F fl_3_11 rfl (hB _ (by decide)) rfl ((hP 102 0 (by decide)).trans rfl) dX3_keep_42 ?_
  refine a_aload_n F 0 dX3_keep_45 rfl rfl ?_
  refine a_geti F fl_3_15 rfl (hB _ (by decide)) rfl dX3_keep_46 ?_
  exact e_1

theorem r_3_keep_22N {X : Ctx} {mc ms k1 k2 : Nat} (F : Fx X cX3_keep RX3 2 3 mc ms) (hk1 : k1 ≤ mc) (hk2 : k2 ≤ ms) {P O : Nat → Nat → Option Nat} (hP : laP P) {I A : Nat → Nat → Int32} {J : Nat → Nat → Int64} {pl : List Nat} (hB : inB pl) {q1 : Nat} (hk_q1 : kC q1 = 0) (hp_q1 : q1 ∈ pl) (hq_q1 : q1 + 1 ∈ pl)
    (e_1 : WA X (mC P O I A J) pl k1 k2 33 [(0, .ref 102), (1, .ref q1)] [.int (I 102 1), .ref 103]) :
    WA X (mC P O I A J) pl k1 k2 22 [(0, .ref 102), (1, .ref q1)] [.null] := by
  refine a_ifnonnullN F dX3_keep_22 ?_
  refine a_aload_n F 0 dX3_keep_25 rfl rfl ?_
  refine a_getr (b := 103) F fl_3_11 rfl (hB _ (by decide)) rfl ((hP 102 0 (by decide)).trans rfl) dX3_keep_26 ?_
  refine a_aload_n F 0 dX3_keep_29 rfl rfl ?_
  refine a_geti F fl_3_15 rfl (hB _ (by decide)) rfl dX3_keep_30 ?_
  exact e_1

theorem r_3_keep_22 {X : Ctx} {mc ms k1 k2 : Nat} (F : Fx X cX3_keep RX3 2 3 mc ms) (hk1 : k1 ≤ mc) (hk2 : k2 ≤ ms) {P O : Nat → Nat → Option Nat} (hP : laP P) {I A : Nat → Nat → Int32} {J : Nat → Nat → Int64} {pl : List Nat} (hB : inB pl) {q1 : Nat} (hk_q1 : kC q1 = 0) (hp_q1 : q1 ∈ pl) (hq_q1 : q1 + 1 ∈ pl) {b9 : Nat} (hk_b9 : kC b9 = 0) (hp_b9 : b9 ∈ pl) (hq_b9 : b9 + 1 ∈ pl)
    (e_1 : WA X (mC P O I A J) pl k1 k2 41 [(0, .ref 102), (1, .ref q1)] []) :
    WA X (mC P O I A J) pl k1 k2 22 [(0, .ref 102), (1, .ref q1)] [.ref b9] := by
  refine a_ifnonnull (tgt := 41) F dX3_keep_22 (by decide) ?_
  exact e_1

theorem r_3_keep_50 {X : Ctx} {mc ms k1 k2 : Nat} (F : Fx X cX3_keep RX3 2 3 mc ms) (hk1 : k1 ≤ mc) (hk2 : k2 ≤ ms) {Φ : Option Value → HS → List Nat → Prop} (E : Ex X none mc ms Φ) {P O : Nat → Nat → Option Nat} (hP : laP P) {I A : Nat → Nat → Int32} {J : Nat → Nat → Int64} {pl : List Nat} (hB : inB pl) {q1 : Nat} (hk_q1 : kC q1 = 0) (hp_q1 : q1 ∈ pl) (hq_q1 : q1 + 1 ∈ pl) {b9 : Nat} (hk_b9 : kC b9 = 0) (hp_b9 : b9 ∈ pl) (hq_b9 : b9 + 1 ∈ pl)
    (e_1 : Φ none (mC P O (up2 (up2 I b9 1 (I q1 1)) 102 2 (if (8 : Int32) < (((up2 I b9 1 (I q1 1)) 102 2) + 1) then (8 : Int32) else (((up2 I b9 1 (I q1 1)) 102 2) + 1))) (up1 A (b9 + 1) (va_cpy (A (q1 + 1)) (A (b9 + 1)) 0 0 52)) J) pl) :
    WA X (mC P O I A J) pl k1 k2 50 [(0, .ref 102), (1, .ref q1)] [.ref b9] := by
  refine a_aload_n F 1 dX3_keep_50 rfl rfl ?_
  refine a_callV (b := b9) (As := [.ref q1]) (st := []) (ci := 0) F (c_0_copyFrom (xl X) hP I A J hB b9 hk_b9 (hp_b9) (hq_b9) q1 hk_q1 (hp_q1) (hq_q1)) ml_3_20 im_yX0_copyFrom se_yX0_copyFrom (by decide) (by decide) rfl (hp_b9) hk_b9 rfl dX3_keep_51 (by decide) hk1 hk2 (hl_r (hB _ (by decide)) (hl_r (hp_q1) hl_nil)) hs_nil ?_
  rintro _ _ _ ⟨rfl, rfl, rfl⟩ _
  show WA X (mC P O (up2 I b9 1 (I q1 1)) (up1 A (b9 + 1) (va_cpy (A (q1 + 1)) (A (b9 + 1)) 0 0 52)) J) pl k1 k2 54 [(0, .ref 102), (1, .ref q1)] []
  refine a_aload_n F 0 dX3_keep_54 rfl rfl ?_
  refine a_aload_n F 0 dX3_keep_55 rfl rfl ?_
  refine a_geti F fl_3_24 rfl (hB _ (by decide)) rfl dX3_keep_56 ?_
  refine a_iconst (v := 1) F dX3_keep_59 (by decide) ?_
  refine a_iadd F dX3_keep_60 ?_
  refine a_bipush (v := 8) F dX3_keep_61 (by decide) ?_
  refine a_mmin F mnl_3_27 (by decide) hk1 hk2 (Nat.le_of_ble_eq_true rfl) dX3_keep_63 ?_
  refine a_puti F fl_3_24 rfl rfl rfl rfl (hB _ (by decide)) rfl dX3_keep_66 ?_
  exact a_vret F E dX3_keep_69 hk1 hk2 (e_1)

set_option maxRecDepth 100000 in
theorem c_3_keep (l : Launch) {P O : Nat → Nat → Option Nat} (hP : laP P) (I A : Nat → Nat → Int32) (J : Nat → Nat → Int64) {pl : List Nat} (hB : inB pl) (q1 : Nat) (hk_q1 : kC q1 = 0) (hp_q1 : q1 ∈ pl) (hq_q1 : q1 + 1 ∈ pl) (n c : Nat) (hF : laF P) (hC : clC P O pl) (hO : bdO O pl) (hn : n < 8) (hc : c ≤ 8) (h1 : I 102 1 = nI n) (h2 : I 102 2 = nI c) (hq : q1 < 200) : ConS l 3 yX3_keep cX3_keep 2 none [.ref 102, .ref q1] (mC P O I A J) pl 2 54 (kpQ P O I A J pl q1 ((n + 1) % 8) c) := by
  refine ConS.of (by decide) (Nat.le_of_ble_eq_true rfl) (fun X hX9 hn9 F E S => ?_)
  obtain ⟨L, hL⟩ : ∃ L, (n + 1) % 8 = L := ⟨_, rfl⟩
  have hL8 : L < 8 := by omega
  rw [hL] at E
  obtain ⟨kb1, kb2, kb3⟩ := kC_b L hL8
  have eL : (I 102 1 + 1) - (I 102 1 + 1) / 8 * 8 = nI L := by rw [h1, nI_1, rem8 (by omega), hL]
  have vL : vp_in (nI L) 8 := vp_in_nI hL8 (by omega)
  have cL : (nI L).toNatClampNeg = L := nI_clamp (by omega)
  have fin : ∀ (k1 k2 : Nat) (O' : Nat → Nat → Option Nat) (I0 A0 : Nat → Nat → Int32) (pl' : List Nat), k1 ≤ 2 → k2 ≤ 54 → inB pl' → clC P O' pl' → bdO O' pl' → (∀ q, q ∈ pl → q ∈ pl') → (∀ q, q ∈ pl' → q ∈ pl ∨ q = 200 + 2 * L ∨ q = 201 + 2 * L) → (∀ q, q ≠ 103 → O' q = O q) → O' 103 L = some (200 + 2 * L) → (∀ i, i ≠ L → O' 103 i = O 103 i) → 200 + 2 * L ∈ pl' → 201 + 2 * L ∈ pl' → I0 102 1 = nI L → (∀ q k, q ≠ 200 + 2 * L → ¬ (q = 102 ∧ k = 1) → I0 q k = I q k) → (∀ q, q ≠ 201 + 2 * L → A0 q = A q) → WA X (mC P O' I0 A0 J) pl' k1 k2 41 [(0, .ref 102), (1, .ref q1)] [] := by
    intro k1 k2 O' I0 A0 pl' hk1 hk2 hB' c1 c2 c3 c4 c5 c6 c7 m1 m2 i1 i2 a1
    refine r_3_keep_41 F hk1 hk2 hP hB' hk_q1 (c3 _ hp_q1) (c3 _ hq_q1) ?_
    rw [i1]
    refine a_aldR (c := 16) F (hB' _ (by decide)) rfl (Or.inl rfl) vL (show O' 103 (nI L).toNatClampNeg = some (200 + 2 * L) by rw [cL]; exact c6) dX3_keep_49 ?_
    refine r_3_keep_50 F hk1 hk2 E hP hB' hk_q1 (c3 _ hp_q1) (c3 _ hq_q1) kb1 m1 (show 200 + 2 * L + 1 ∈ pl' by rw [show 200 + 2 * L + 1 = 201 + 2 * L by omega]; exact m2) ?_
    rw [show 200 + 2 * L + 1 = 201 + 2 * L by omega]
    have e2 : (up2 I0 (200 + 2 * L) 1 (I0 q1 1)) 102 2 = nI c := by rw [up2_p (by omega), i2 102 2 (by omega) (by omega), h2]
    rw [e2, nI_1]
    have e8 : (if (8 : Int32) < nI (c + 1) then (8 : Int32) else nI (c + 1)) = nI (min (c + 1) 8) := by
      by_cases z : c = 8
      · rw [if_pos ((nI_gtn 8 (by omega) (by omega)).mpr (by omega)), show min (c + 1) 8 = 8 by omega]; rfl
      · rw [if_neg (fun y => by have := (nI_gtn 8 (by omega) (by omega)).mp y; omega), show min (c + 1) 8 = c + 1 by omega]
    rw [e8]
    refine ⟨rfl, O', _, _, rfl, c1, c2, c3, c4, c5, ?_, up2_s, ?_, fun q k a b => ?_, fun j hj => ?_, fun q hq9 => ?_, c6, c7⟩
    · rw [up2_k (by decide), up2_p (by omega)]; exact i1
    · rw [up2_p (by omega), up2_s]; exact i2 q1 1 (by omega) (fun z => by rw [z.1] at hk_q1; exact absurd hk_q1 (by decide))
    · rw [up2_p a, up2_p b]; exact i2 q k b (fun z => a z.1)
    · rw [up1_s, a1 (q1 + 1) (by omega)]; unfold va_cpy; rw [if_pos (by omega)]; congr 1; omega
    · rw [up1_p hq9]; exact a1 q hq9
  refine r_3_keep_0 F (Nat.zero_le _) (Nat.zero_le _) hP hB hk_q1 hp_q1 hq_q1 ?_
  rw [eL]
  have i2 : ∀ q k, ¬ (q = 102 ∧ k = 1) → (up2 I 102 1 (nI L)) q k = I q k := fun q k h => by
    by_cases z : q = 102
    · subst z; exact up2_k (fun y => h ⟨rfl, y⟩)
    · exact up2_p z
  rcases hO L hL8 with ⟨o1, o2, o3⟩ | ⟨o1, o2, o3⟩
  · refine a_aldR (c := 16) F (hB _ (by decide)) rfl (Or.inl rfl) vL (show O 103 (nI L).toNatClampNeg = some (200 + 2 * L) by rw [cL]; exact o1) dX3_keep_21 ?_
    refine r_3_keep_22 F (Nat.zero_le _) (Nat.zero_le _) hP hB hk_q1 hp_q1 hq_q1 kb1 o2 (show 200 + 2 * L + 1 ∈ pl by rw [show 200 + 2 * L + 1 = 201 + 2 * L by omega]; exact o3) ?_
    exact fin 0 0 O _ A pl (by omega) (by omega) hB hC hO (fun _ h => h) (fun _ h => Or.inl h) (fun _ _ => rfl) o1 (fun _ _ => rfl) o2 o3 up2_s (fun q k _ h => i2 q k h) (fun _ _ => rfl)
  · refine a_aldN (c := 16) F (hB _ (by decide)) rfl (Or.inl rfl) vL (show O 103 (nI L).toNatClampNeg = none by rw [cL]; exact o1) dX3_keep_21 ?_
    refine r_3_keep_22N F (Nat.zero_le _) (Nat.zero_le _) hP hB hk_q1 hp_q1 hq_q1 ?_
    rw [up2_s]
    have o3' : 200 + 2 * L + 1 ∉ pl := by rw [show 200 + 2 * L + 1 = 201 + 2 * L by omega]; exact o3
    refine a_newBd (p := 200 + 2 * L) F S kb1 o2 o3' hC (hF _ kb3) cl_3_9 mn_3_19 dX3_keep_33 dX3_keep_36 dX3_keep_37 (by decide) (by omega) (by omega) (hl_r (hB _ (by decide)) (hl_r hp_q1 hl_nil)) (hs_i (hs_r (hB _ (by decide)) hs_nil)) (Nat.le_of_ble_eq_true rfl) ?_
    rw [show 200 + 2 * L + 1 = 201 + 2 * L by omega]
    have sub : ∀ q, q ∈ pl → q ∈ pl ++ [200 + 2 * L] ++ [201 + 2 * L] := fun q h => List.mem_append_left _ (List.mem_append_left _ h)
    have m1 : 200 + 2 * L ∈ pl ++ [200 + 2 * L] ++ [201 + 2 * L] := List.mem_append_left _ (List.mem_append_right _ (List.mem_singleton.mpr rfl))
    have m2 : 201 + 2 * L ∈ pl ++ [200 + 2 * L] ++ [201 + 2 * L] := List.mem_append_right _ (List.mem_singleton.mpr rfl)
    have hB' : inB (pl ++ [200 + 2 * L] ++ [201 + 2 * L]) := fun q h => sub q (hB q h)
    have only : ∀ q, q ∈ pl ++ [200 + 2 * L] ++ [201 + 2 * L] → q ∈ pl ∨ q = 200 + 2 * L ∨ q = 201 + 2 * L := fun q h => by
      rcases List.mem_append.mp h with h | h
      · rcases List.mem_append.mp h with h | h
        · exact Or.inl h
        · exact Or.inr (Or.inl (List.mem_singleton.mp h))
      · exact Or.inr (Or.inr (List.mem_singleton.mp h))
    have hC2 : clC P O (pl ++ [200 + 2 * L] ++ [201 + 2 * L]) := by
      have z1 := ((hC.new o2 (by omega)).row (p := 201 + 2 * L) (by omega) (by omega)).put (p := 200 + 2 * L) (k := 0) m2
      exact z1.cg (by rw [show 201 + 2 * L = 200 + 2 * L + 1 by omega]; exact (up_back (hF _ kb3)).symm)
    refine a_astR (c := 16) (ci := 0) F (hB' _ (by decide)) rfl (Or.inl ⟨rfl, rfl⟩) m1 kb1 vL dX3_keep_40 ?_
    have eo : va_up (O 103) (nI L).toNatClampNeg (some (200 + 2 * L)) = va_up (O 103) L (some (200 + 2 * L)) := by rw [cL]
    show WA X (mC P (up1 O 103 (va_up (O 103) (nI L).toNatClampNeg (some (200 + 2 * L)))) (up1 (up2 I 102 1 (nI L)) (200 + 2 * L) (fun _ => 0)) (up1 A (201 + 2 * L) (fun _ => 0)) J) (pl ++ [200 + 2 * L] ++ [201 + 2 * L]) (0 + 2) (0 + 54) 41 [(0, .ref 102), (1, .ref q1)] []
    rw [eo]
    have u1 : ∀ i, i ≠ L → (up1 O 103 (va_up (O 103) L (some (200 + 2 * L)))) 103 i = O 103 i := fun i hi => by rw [up1_s]; simp only [va_up, if_neg hi]
    have u2 : (up1 O 103 (va_up (O 103) L (some (200 + 2 * L)))) 103 L = some (200 + 2 * L) := by rw [up1_s]; simp only [va_up, if_true]
    refine fin 2 54 _ _ _ _ (by omega) (by omega) hB' (hC2.ast m1) (fun i hi => ?_) sub only (fun q h => up1_p h) u2 u1 m1 m2 ?_ (fun q k a b => ?_) (fun q a => up1_p a)
    · by_cases z : i = L
      · subst z; exact Or.inl ⟨u2, m1, m2⟩
      · rw [u1 i z]
        rcases hO i hi with ⟨a, b, c⟩ | ⟨a, b, c⟩
        · exact Or.inl ⟨a, sub _ b, sub _ c⟩
        · refine Or.inr ⟨a, fun y => ?_, fun y => ?_⟩
          · rcases only _ y with y | y | y
            · exact b y
            · omega
            · omega
          · rcases only _ y with y | y | y
            · exact c y
            · omega
            · omega
    · rw [up1_p (by omega), up2_s]
    · rw [up1_p a]; exact i2 q k b

def gbQ (P O : Nat → Nat → Option Nat) (I A : Nat → Nat → Int32) (J : Nat → Nat → Int64) (pl : List Nat) (q1 n c : Nat) : Option Value → HS → List Nat → Prop := fun r σ' pl' => pl = pl' ∧ ((c = 0 ∧ r = some (.int 0) ∧ σ' = mC P O I A J) ∨ (c ≠ 0 ∧ r = some (.int 1) ∧ ∃ I' A', σ' = mC P O I' A' J ∧ I' q1 1 = I (200 + 2 * n) 1 ∧ I' 102 1 = nI ((n + 7) % 8) ∧ I' 102 2 = nI (c - 1) ∧ (∀ q k, ¬ (q = q1 ∧ k = 1) → ¬ (q = 102 ∧ 1 ≤ k ∧ k ≤ 2) → I' q k = I q k) ∧ (∀ j, j < 52 → A' (q1 + 1) j = A (201 + 2 * n) j) ∧ ∀ q, q ≠ q1 + 1 → A' q = A q))

theorem r_3_giveBack_0 {X : Ctx} (F : Fx X cX3_giveBack RX3 2 3 0 0) {Φ : Option Value → HS → List Nat → Prop} (E : Ex X (some .boolean) 0 0 Φ) {P O : Nat → Nat → Option Nat} (hP : laP P) {I A : Nat → Nat → Int32} {J : Nat → Nat → Int64} {pl : List Nat} (hB : inB pl) {q1 : Nat} (hk_q1 : kC q1 = 0) (hp_q1 : q1 ∈ pl) (hq_q1 : q1 + 1 ∈ pl)
    (e_1 : ((I 102 2) = 0) → Φ (some (.int 0)) (mC P O I A J) pl)
    (e_2 : (¬ ((I 102 2) = 0)) → WA X (mC P O I A J) pl 0 0 15 [(0, .ref 102), (1, .ref q1)] [.int (I 102 1), .ref 103]) :
    WA X (mC P O I A J) pl 0 0 0 [(0, .ref 102), (1, .ref q1)] [] := by
  refine a_aload_n F 0 dX3_giveBack_0 rfl rfl ?_
  refine a_geti F fl_3_24 rfl (hB _ (by decide)) rfl dX3_giveBack_1 ?_
  refine a_if_eq (tgt := 19) F dX3_giveBack_4 (by decide) (fun (c_1 : (I 102 2) = 0) => ?_) (fun (c_1 : ¬ ((I 102 2) = 0)) => ?_)
  · refine a_iconst (v := 0) F dX3_giveBack_19 (by decide) ?_
    exact a_zret F E (by decide) dX3_giveBack_20 (Nat.le_refl 0) (Nat.le_refl 0) (e_1 c_1)
  · refine a_aload_n F 0 dX3_giveBack_7 rfl rfl ?_
    refine a_getr (b := 103) F fl_3_11 rfl (hB _ (by decide)) rfl ((hP 102 0 (by decide)).trans rfl) dX3_giveBack_8 ?_
    refine a_aload_n F 0 dX3_giveBack_11 rfl rfl ?_
    refine a_geti F fl_3_15 rfl (hB _ (by decide)) rfl dX3_giveBack_12 ?_
    exact e_2 c_1

theorem r_3_giveBack_21 {X : Ctx} (F : Fx X cX3_giveBack RX3 2 3 0 0) {P O : Nat → Nat → Option Nat} (hP : laP P) {I A : Nat → Nat → Int32} {J : Nat → Nat → Int64} {pl : List Nat} (hB : inB pl) {q1 : Nat} (hk_q1 : kC q1 = 0) (hp_q1 : q1 ∈ pl) (hq_q1 : q1 + 1 ∈ pl)
    (e_1 : WA X (mC P O I A J) pl 0 0 30 [(0, .ref 102), (1, .ref q1)] [.int (I 102 1), .ref 103, .ref q1]) :
    WA X (mC P O I A J) pl 0 0 21 [(0, .ref 102), (1, .ref q1)] [] := by
  refine a_aload_n F 1 dX3_giveBack_21 rfl rfl ?_
  refine a_aload_n F 0 dX3_giveBack_22 rfl rfl ?_
  refine a_getr (b := 103) F fl_3_11 rfl (hB _ (by decide)) rfl ((hP 102 0 (by decide)).trans rfl) dX3_giveBack_23 ?_
  refine a_aload_n F 0 dX3_giveBack_26 rfl rfl ?_
  refine a_geti F fl_3_15 rfl (hB _ (by decide)) rfl dX3_giveBack_27 ?_
  exact e_1

theorem r_3_giveBack_16 {X : Ctx} (F : Fx X cX3_giveBack RX3 2 3 0 0) {P O : Nat → Nat → Option Nat} (hP : laP P) {I A : Nat → Nat → Int32} {J : Nat → Nat → Int64} {pl : List Nat} (hB : inB pl) {q1 : Nat} (hk_q1 : kC q1 = 0) (hp_q1 : q1 ∈ pl) (hq_q1 : q1 + 1 ∈ pl) {b9 : Nat} (hk_b9 : kC b9 = 0) (hp_b9 : b9 ∈ pl) (hq_b9 : b9 + 1 ∈ pl)
    (e_1 : WA X (mC P O I A J) pl 0 0 21 [(0, .ref 102), (1, .ref q1)] []) :
    WA X (mC P O I A J) pl 0 0 16 [(0, .ref 102), (1, .ref q1)] [.ref b9] := by
  refine a_ifnonnull (tgt := 21) F dX3_giveBack_16 (by decide) ?_
  exact e_1

theorem r_3_giveBack_31 {X : Ctx} (F : Fx X cX3_giveBack RX3 2 3 0 0) {Φ : Option Value → HS → List Nat → Prop} (E : Ex X (some .boolean) 0 0 Φ) {P O : Nat → Nat → Option Nat} (hP : laP P) {I A : Nat → Nat → Int32} {J : Nat → Nat → Int64} {pl : List Nat} (hB : inB pl) {q1 : Nat} (hk_q1 : kC q1 = 0) (hp_q1 : q1 ∈ pl) (hq_q1 : q1 + 1 ∈ pl) {b9 : Nat} (hk_b9 : kC b9 = 0) (hp_b9 : b9 ∈ pl) (hq_b9 : b9 + 1 ∈ pl)
    (e_1 : Φ (some (.int 1)) (mC P O (up2 (up2 (up2 I q1 1 (I b9 1)) 102 1 (((((up2 I q1 1 (I b9 1)) 102 1) + 8) - 1) - ((((up2 I q1 1 (I b9 1)) 102 1) + 8) - 1) / 8 * 8)) 102 2 (((up2 I q1 1 (I b9 1)) 102 2) - 1)) (up1 A (q1 + 1) (va_cpy (A (b9 + 1)) (A (q1 + 1)) 0 0 52)) J) pl) :
    WA X (mC P O I A J) pl 0 0 31 [(0, .ref 102), (1, .ref q1)] [.ref b9, .ref q1] := by
  refine a_callV (b := q1) (As := [.ref b9]) (st := []) (ci := 0) F (c_0_copyFrom (xl X) hP I A J hB q1 hk_q1 (hp_q1) (hq_q1) b9 hk_b9 (hp_b9) (hq_b9)) ml_3_20 im_yX0_copyFrom se_yX0_copyFrom (by decide) (by decide) rfl (hp_q1) hk_q1 rfl dX3_giveBack_31 (by decide) (Nat.le_refl 0) (Nat.le_refl 0) (hl_r (hB _ (by decide)) (hl_r (hp_q1) hl_nil)) hs_nil ?_
  rintro _ _ _ ⟨rfl, rfl, rfl⟩ _
  show WA X (mC P O (up2 I q1 1 (I b9 1)) (up1 A (q1 + 1) (va_cpy (A (b9 + 1)) (A (q1 + 1)) 0 0 52)) J) pl 0 0 34 [(0, .ref 102), (1, .ref q1)] []
  refine a_aload_n F 0 dX3_giveBack_34 rfl rfl ?_
  refine a_aload_n F 0 dX3_giveBack_35 rfl rfl ?_
  refine a_geti F fl_3_15 rfl (hB _ (by decide)) rfl dX3_giveBack_36 ?_
  refine a_bipush (v := 8) F dX3_giveBack_39 (by decide) ?_
  refine a_iadd F dX3_giveBack_41 ?_
  refine a_iconst (v := 1) F dX3_giveBack_42 (by decide) ?_
  refine a_isub F dX3_giveBack_43 ?_
  refine a_bipush (v := 8) F dX3_giveBack_44 (by decide) ?_
  refine a_irem F dX3_giveBack_46 (by decide) ?_
  refine a_puti F fl_3_15 rfl rfl rfl rfl (hB _ (by decide)) rfl dX3_giveBack_47 ?_
  refine a_aload_n F 0 dX3_giveBack_50 rfl rfl ?_
  refine a_dup F dX3_giveBack_51 rfl ?_
  refine a_geti F fl_3_24 rfl (hB _ (by decide)) rfl dX3_giveBack_52 ?_
  refine a_iconst (v := 1) F dX3_giveBack_55 (by decide) ?_
  refine a_isub F dX3_giveBack_56 ?_
  refine a_puti F fl_3_24 rfl rfl rfl rfl (hB _ (by decide)) rfl dX3_giveBack_57 ?_
  refine a_iconst (v := 1) F dX3_giveBack_60 (by decide) ?_
  exact a_zret F E (by decide) dX3_giveBack_61 (Nat.le_refl 0) (Nat.le_refl 0) (e_1)

set_option maxRecDepth 100000 in
theorem c_3_giveBack (l : Launch) {P O : Nat → Nat → Option Nat} (hP : laP P) (I A : Nat → Nat → Int32) (J : Nat → Nat → Int64) {pl : List Nat} (hB : inB pl) (q1 : Nat) (hk_q1 : kC q1 = 0) (hp_q1 : q1 ∈ pl) (hq_q1 : q1 + 1 ∈ pl) (n c : Nat) (hO : bdO O pl) (hn : n < 8) (hc : c ≤ 8) (h1 : I 102 1 = nI n) (h2 : I 102 2 = nI c) (hq : q1 < 200) (hin : c ≠ 0 → O 103 n = some (200 + 2 * n)) : Con l 3 yX3_giveBack cX3_giveBack 2 (some .boolean) [.ref 102, .ref q1] (mC P O I A J) pl 0 0 (gbQ P O I A J pl q1 n c) := by
  refine Con.of (by decide) (Nat.le_of_ble_eq_true rfl) (fun X hX9 hn9 F E => ?_)
  obtain ⟨kb1, kb2, kb3⟩ := kC_b n hn
  have c0 : I 102 2 = 0 ↔ c = 0 := by rw [h2]; exact nI_z (by omega)
  have vL : vp_in (nI n) 8 := vp_in_nI hn (by omega)
  have cL : (nI n).toNatClampNeg = n := nI_clamp (by omega)
  refine r_3_giveBack_0 F E hP hB hk_q1 hp_q1 hq_q1 (fun z => ⟨rfl, Or.inl ⟨c0.mp z, rfl, rfl⟩⟩) (fun z => ?_)
  have hc0 : c ≠ 0 := fun y => z (c0.mpr y)
  have o1 := hin hc0
  have om : 200 + 2 * n ∈ pl ∧ 201 + 2 * n ∈ pl := by
    rcases hO n hn with a | a
    · exact a.2
    · rw [o1] at a; exact absurd a.1 (fun z => nomatch z)
  have om2 : 200 + 2 * n + 1 ∈ pl := by rw [show 200 + 2 * n + 1 = 201 + 2 * n by omega]; exact om.2
  rw [h1]
  refine a_aldR (c := 16) F (hB _ (by decide)) rfl (Or.inl rfl) vL (show O 103 (nI n).toNatClampNeg = some (200 + 2 * n) by rw [cL]; exact o1) dX3_giveBack_15 ?_
  refine r_3_giveBack_16 F hP hB hk_q1 hp_q1 hq_q1 kb1 om.1 om2 ?_
  refine r_3_giveBack_21 F hP hB hk_q1 hp_q1 hq_q1 ?_
  rw [h1]
  refine a_aldR (c := 16) F (hB _ (by decide)) rfl (Or.inl rfl) vL (show O 103 (nI n).toNatClampNeg = some (200 + 2 * n) by rw [cL]; exact o1) dX3_giveBack_30 ?_
  refine r_3_giveBack_31 F E hP hB hk_q1 hp_q1 hq_q1 kb1 om.1 om2 ?_
  rw [show 200 + 2 * n + 1 = 201 + 2 * n by omega]
  have q102 : q1 ≠ 102 := fun z => by rw [z] at hk_q1; exact absurd hk_q1 (by decide)
  have e1 : (up2 I q1 1 (I (200 + 2 * n) 1)) 102 1 = nI n := by rw [up2_p (fun z => q102 z.symm)]; exact h1
  have e2 : (up2 I q1 1 (I (200 + 2 * n) 1)) 102 2 = nI c := by rw [up2_p (fun z => q102 z.symm)]; exact h2
  have e3 : (nI n + 8) - 1 = nI (n + 7) := by rw [show nI n + 8 = nI (n + 8) from nI_add n 8, show nI (n + 8) - 1 = nI (n + 8 - 1) from pk_sub (b := 1) (by omega)]; rfl
  rw [e1, e2, e3, rem8 (by omega), show nI c - 1 = nI (c - 1) from pk_sub (b := 1) (by omega)]
  refine ⟨rfl, Or.inr ⟨hc0, rfl, _, _, rfl, ?_, ?_, up2_s, fun q k a b => ?_, fun j hj => ?_, fun q a => up1_p a⟩⟩
  · rw [up2_p q102, up2_p q102, up2_s]
  · rw [up2_k (by decide), up2_s]
  · by_cases z : q = 102
    · subst z
      have k1 : k ≠ 1 := fun y => b ⟨rfl, by omega, by omega⟩
      have k2 : k ≠ 2 := fun y => b ⟨rfl, by omega, by omega⟩
      rw [up2_k k2, up2_k k1, up2_p (fun z => q102 z.symm)]
    · rw [up2_p z, up2_p z]
      by_cases y : q = q1
      · subst y; exact up2_k (fun w => a ⟨rfl, w⟩)
      · exact up2_p y
  · rw [up1_s]; unfold va_cpy; rw [if_pos (by omega)]; congr 1; omega

theorem r_3_forget_0 {X : Ctx} (F : Fx X cX3_forget RX3 1 1 0 0) {Φ : Option Value → HS → List Nat → Prop} (E : Ex X none 0 0 Φ) {P O : Nat → Nat → Option Nat} (hP : laP P) {I A : Nat → Nat → Int32} {J : Nat → Nat → Int64} {pl : List Nat} (hB : inB pl)
    (e_1 : Φ none (mC P O (up2 I 102 2 0) A J) pl) :
    WA X (mC P O I A J) pl 0 0 0 [(0, .ref 102)] [] := by
  refine a_aload_n F 0 dX3_forget_0 rfl rfl ?_
  refine a_iconst (v := 0) F dX3_forget_1 (by decide) ?_
  refine a_puti F fl_3_24 rfl rfl rfl rfl (hB _ (by decide)) rfl dX3_forget_2 ?_
  exact a_vret F E dX3_forget_5 (Nat.le_refl 0) (Nat.le_refl 0) (e_1)

set_option maxRecDepth 10000 in
theorem c_3_forget (l : Launch) {P O : Nat → Nat → Option Nat} (hP : laP P) (I A : Nat → Nat → Int32) (J : Nat → Nat → Int64) {pl : List Nat} (hB : inB pl) : Con l 1 yX3_forget cX3_forget 1 none [.ref 102] (mC P O I A J) pl 0 0 (PC none P O (up2 I 102 2 0) A J pl) := by
  refine Con.of (by decide) (Nat.le_of_ble_eq_true rfl) (fun X hX9 hn9 F E => ?_)
  refine r_3_forget_0 F E hP hB ?_ <;> (clear F E hn9 hX9; (try clear X); exact ⟨rfl, rfl, rfl⟩)
