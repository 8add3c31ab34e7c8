theorem rcb_d1 {m x y s f : Nat} {B0 : Nat → Nat} (hxy : x ≠ y) (hs : s ≤ 1) (h1 : 1 ≤ f) (h2 : f ≤ 25) (hc : cmP B0 m f (if s = 0 then x else y)) : Rch m x y 0 1 0 (L0F x y) B0 0 (3 - 2 ^ s) (mvB B0 m f (if s = 0 then x else y)) ((32 * f + (f - (if s = 0 then x else y))) * 1024 ^ 3) := by
  have e1 : 25 - (2 * (25 - f) + s) / 2 = f := by omega
  have e3 : (2 * (25 - f) + s) % 2 = s := by omega
  have e2 : dieC x y (2 * (25 - f) + s) = if s = 0 then x else y := by unfold dieC; rw [e3]
  have h4 : L0F x y = 3 := by unfold L0F; rw [if_neg hxy]
  have e5 : woF x y 3 s = 3 - 2 ^ s := by unfold woF; rw [if_neg hxy]
  rw [h4]
  refine ⟨2 * (25 - f) + s, by omega, ⟨?_, Or.inl rfl, by rw [e1, e2]; exact hc⟩, ?_, ?_, ?_⟩
  · rw [e3]; unfold lfP; rw [if_neg hxy]
    rcases (show s = 0 ∨ s = 1 by omega) with rfl | rfl <;> decide
  · rw [e3, e5]
  · unfold nxB; rw [e1, e2]
  · unfold nxW cdC; rw [e1, e2, Nat.zero_add]
theorem rcb_d2 {m x y s f k : Nat} {B0 : Nat → Nat} (hxy : x ≠ y) (hs : s ≤ 1) (h1 : 1 ≤ f) (h2 : f ≤ 25) (hc : cmP B0 m f (if s = 0 then x else y)) (k1 : 1 ≤ k) (k2 : k ≤ 25) (hk : cmP (mvB B0 m f (if s = 0 then x else y)) m k (if s = 0 then y else x)) : rcb m x y B0 2 (mvB (mvB B0 m f (if s = 0 then x else y)) m k (if s = 0 then y else x)) ((32 * f + (f - (if s = 0 then x else y))) * 1024 ^ 3 + (32 * k + (k - (if s = 0 then y else x))) * 1024 ^ 2) := by
  have h := rcb_d1 hxy hs h1 h2 hc
  have e1 : 25 - (2 * (25 - k) + (1 - s)) / 2 = k := by omega
  have e3 : (2 * (25 - k) + (1 - s)) % 2 = 1 - s := by omega
  have e2 : dieC x y (2 * (25 - k) + (1 - s)) = if s = 0 then y else x := by
    unfold dieC; rw [e3]
    rcases (show s = 0 ∨ s = 1 by omega) with rfl | rfl <;> rfl
  have := Rch_snoc 1 0 _ _ _ _ _ _ (2 * (25 - k) + (1 - s)) h (by omega) ⟨by
    rw [e3]; unfold lfP; rw [if_neg hxy]
    rcases (show s = 0 ∨ s = 1 by omega) with rfl | rfl <;> decide, Or.inl rfl, by rw [e1, e2]; exact hk⟩
  unfold nxB nxW cdC at this
  rw [e1, e2] at this
  exact ⟨_, this⟩
/-- the table that the class comes to, x the lesser die and y the greater -/
noncomputable def wkF (m x y : Nat) (B : Nat → Nat) (g : Nat) : TB := @ite TB (overB B) (Classical.propDecidable _) (recF m (0, 0, fun _ _ => 0, fun _ => 0, g) B 0 0) (if x = y then extF m x 4 B 25 0 (0, 0, fun _ _ => 0, fun _ => 0, g) else gobF m x y B (gobF m y x B (0, 0, fun _ _ => 0, fun _ => 0, g)))
theorem wk_g (m x y : Nat) (B : Nat → Nat) (g : Nat) : g ≤ (wkF m x y B g).2.2.2.2 := by
  unfold wkF
  by_cases c : overB B
  · rw [if_pos c]; exact rec_g m (0, 0, fun _ _ => 0, fun _ => 0, g) B 0 0
  · rw [if_neg c]
    by_cases c2 : x = y
    · rw [if_pos c2]; exact ext_g m x 4 B 25 0 (0, 0, fun _ _ => 0, fun _ => 0, g)
    · rw [if_neg c2]; exact Nat.le_trans (gob_g m y x B (0, 0, fun _ _ => 0, fun _ => 0, g)) (gob_g m x y B _)
def rtP (P : Nat → Nat → Option Nat) (pl : List Nat) (g : Nat) : Prop := rtM pl g ∧ P 110 3 = some (300 + 2 * g) ∧ P 110 4 = some (301 + 2 * g)
theorem iv_0 (m x y : Nat) (B0 : Nat → Nat) (T : Nat → Nat → Nat) (W : Nat → Nat) (g : Nat) : ivE m x y B0 (0, 0, T, W, g) := ⟨fun _ _ => False, Nat.zero_le _, fun _ _ z => z.elim, tabS_e m T W⟩
theorem wk_I {m x y g : Nat} {B : Nat → Nat} (hm : m ≤ 1) (hx : 1 ≤ x ∧ x ≤ 6) (hy : 1 ≤ y ∧ y ≤ 6) (hok : okB B) : ivE m x y B (wkF m x y B g) := by
  have h0 := iv_0 m x y B (fun _ _ => 0) (fun _ => 0) g
  unfold wkF
  by_cases c : overB B
  · rw [if_pos c]; exact rec_I (v := 0) hm hx hy hok (rcb_0 m x y B) (by omega) h0
  · rw [if_neg c]
    by_cases c2 : x = y
    · subst c2; rw [if_pos rfl]; exact ext_I hm hx hok 4 B 25 0 _ (Nat.le_refl _) (Nat.le_refl _) (rcb_0 m x x B) h0
    · rw [if_neg c2]
      exact gob_I hm hx hy hok (fun f a b z => ⟨_, rcb_d1 (s := 0) c2 (by omega) a b z⟩) (fun f a b z k d e z2 => rcb_d2 (s := 0) c2 (by omega) a b z d e z2) (gob_I hm hx hy hok (fun f a b z => ⟨_, rcb_d1 (s := 1) c2 (by omega) a b z⟩) (fun f a b z k d e z2 => rcb_d2 (s := 1) c2 (by omega) a b z d e z2) h0)

theorem r_6_workOut_0 {X : Ctx} {mc ms k1 k2 : Nat} (F : Fx X cX6_workOut RX6 3 13 mc ms) (hk1 : k1 ≤ mc) (hk2 : k2 ≤ ms) {P O : Nat → Nat → Option Nat} (hP : laP P) {I A : Nat → Nat → Int32} {J : Nat → Nat → Int64} {pl : List Nat} (hB : inB pl) {x1 x2 : Int32}
    (e_1 : WA X (mC P O (up2 (up2 (up2 I 110 7 0) 110 5 0) 110 6 (I 130 1)) A J) pl k1 k2 25 [(0, .ref 110), (1, .int x1), (2, .int x2)] [.ref 130]) :
    WA X (mC P O I A J) pl k1 k2 0 [(0, .ref 110), (1, .int x1), (2, .int x2)] [] := by
  refine a_aload_n F 0 dX6_workOut_0 rfl rfl ?_
  refine a_iconst (v := 0) F dX6_workOut_1 (by decide) ?_
  refine a_puti F fl_6_30 rfl rfl rfl rfl (hB _ (by decide)) rfl dX6_workOut_2 ?_
  refine a_aload_n F 0 dX6_workOut_5 rfl rfl ?_
  refine a_iconst (v := 0) F dX6_workOut_6 (by decide) ?_
  refine a_puti F fl_6_34 rfl rfl rfl rfl (hB _ (by decide)) rfl dX6_workOut_7 ?_
  refine a_aload_n F 0 dX6_workOut_10 rfl rfl ?_
  refine a_aload_n F 0 dX6_workOut_11 rfl rfl ?_
  refine a_getr (b := 130) F fl_6_26 rfl (hB _ (by decide)) rfl ((hP 110 0 (by decide)).trans rfl) dX6_workOut_12 ?_
  refine a_geti F fl_6_37 rfl (hB _ (by decide)) rfl dX6_workOut_15 ?_
  refine a_puti F fl_6_42 rfl rfl rfl rfl (hB _ (by decide)) rfl dX6_workOut_18 ?_
  refine a_aload_n F 0 dX6_workOut_21 rfl rfl ?_
  refine a_getr (b := 130) F fl_6_26 rfl (hB _ (by decide)) rfl ((hP 110 0 (by decide)).trans rfl) dX6_workOut_22 ?_
  exact e_1

theorem r_6_workOut_28 {X : Ctx} {mc ms k1 k2 : Nat} (F : Fx X cX6_workOut RX6 3 13 mc ms) (hk1 : k1 ≤ mc) (hk2 : k2 ≤ ms) {P O : Nat → Nat → Option Nat} (hP : laP P) {I A : Nat → Nat → Int32} {J : Nat → Nat → Int64} {pl : List Nat} (hB : inB pl) {x1 x2 x9 : Int32}
    (e_1 : (x9 = 0) → (¬ x1 = x2) → WA X (mC P O I A J) pl k1 k2 68 [(0, .ref 110), (1, .int x1), (2, .int x2)] [.int (if x2 < x1 then x2 else x1), .int (if x1 < x2 then x2 else x1), .ref 110])
    (e_2 : (x9 = 0) → (x1 = x2) → WA X (mC P O I A J) pl k1 k2 51 [(0, .ref 110), (1, .int x1), (2, .int x2)] [.long 0, .int 25, .int 0, .int x1, .ref 110])
    (e_3 : (¬ (x9 = 0)) → WA X (mC P O I A J) pl k1 k2 34 [(0, .ref 110), (1, .int x1), (2, .int x2)] [.int 0, .long 0, .ref 110]) :
    WA X (mC P O I A J) pl k1 k2 28 [(0, .ref 110), (1, .int x1), (2, .int x2)] [.int x9] := by
  refine a_if_eq (tgt := 40) F dX6_workOut_28 (by decide) (fun (c_1 : x9 = 0) => ?_) (fun (c_1 : ¬ (x9 = 0)) => ?_)
  · refine a_iload_n F 1 dX6_workOut_40 rfl rfl ?_
    refine a_iload_n F 2 dX6_workOut_41 rfl rfl ?_
    refine a_icmp_ne (tgt := 57) F dX6_workOut_42 (by decide) (fun (c_2 : ¬ x1 = x2) => ?_) (fun (c_2 : x1 = x2) => ?_)
    · refine a_aload_n F 0 dX6_workOut_57 rfl rfl ?_
      refine a_iload_n F 1 dX6_workOut_58 rfl rfl ?_
      refine a_iload_n F 2 dX6_workOut_59 rfl rfl ?_
      refine a_mmax F mxl_6_57 (by decide) hk1 hk2 (Nat.le_of_ble_eq_true rfl) dX6_workOut_60 ?_
      refine a_iload_n F 1 dX6_workOut_63 rfl rfl ?_
      refine a_iload_n F 2 dX6_workOut_64 rfl rfl ?_
      refine a_mmin F mnl_6_63 (by decide) hk1 hk2 (Nat.le_of_ble_eq_true rfl) dX6_workOut_65 ?_
      exact e_1 c_1 c_2
    · refine a_aload_n F 0 dX6_workOut_45 rfl rfl ?_
      refine a_iload_n F 1 dX6_workOut_46 rfl rfl ?_
      refine a_iconst (v := 0) F dX6_workOut_47 (by decide) ?_
      refine a_bipush (v := 25) F dX6_workOut_48 (by decide) ?_
      refine a_lconst (v := 0) F dX6_workOut_50 (by decide) ?_
      exact e_2 c_1 c_2
  · refine a_aload_n F 0 dX6_workOut_31 rfl rfl ?_
    refine a_lconst (v := 0) F dX6_workOut_32 (by decide) ?_
    refine a_iconst (v := 0) F dX6_workOut_33 (by decide) ?_
    exact e_3 c_1

theorem r_6_workOut_71 {X : Ctx} {mc ms k1 k2 : Nat} (F : Fx X cX6_workOut RX6 3 13 mc ms) (hk1 : k1 ≤ mc) (hk2 : k2 ≤ ms) {P O : Nat → Nat → Option Nat} (hP : laP P) {I A : Nat → Nat → Int32} {J : Nat → Nat → Int64} {pl : List Nat} (hB : inB pl) {x1 x2 : Int32}
    (e_1 : WA X (mC P O I A J) pl k1 k2 82 [(0, .ref 110), (1, .int x1), (2, .int x2)] [.int (if x1 < x2 then x2 else x1), .int (if x2 < x1 then x2 else x1), .ref 110]) :
    WA X (mC P O I A J) pl k1 k2 71 [(0, .ref 110), (1, .int x1), (2, .int x2)] [] := by
  refine a_aload_n F 0 dX6_workOut_71 rfl rfl ?_
  refine a_iload_n F 1 dX6_workOut_72 rfl rfl ?_
  refine a_iload_n F 2 dX6_workOut_73 rfl rfl ?_
  refine a_mmin F mnl_6_63 (by decide) hk1 hk2 (Nat.le_of_ble_eq_true rfl) dX6_workOut_74 ?_
  refine a_iload_n F 1 dX6_workOut_77 rfl rfl ?_
  refine a_iload_n F 2 dX6_workOut_78 rfl rfl ?_
  refine a_mmax F mxl_6_57 (by decide) hk1 hk2 (Nat.le_of_ble_eq_true rfl) dX6_workOut_79 ?_
  exact e_1

theorem r_6_workOut_85 {X : Ctx} {mc ms k1 k2 : Nat} (F : Fx X cX6_workOut RX6 3 13 mc ms) (hk1 : k1 ≤ mc) (hk2 : k2 ≤ ms) {Φ : Option Value → HS → List Nat → Prop} (E : Ex X none mc ms Φ) {P O : Nat → Nat → Option Nat} (hP : laP P) {I A : Nat → Nat → Int32} {J : Nat → Nat → Int64} {pl : List Nat} (hB : inB pl) {x1 x2 : Int32}
    (e_1 : Φ none (mC P O I A J) pl) :
    WA X (mC P O I A J) pl k1 k2 85 [(0, .ref 110), (1, .int x1), (2, .int x2)] [] := by
  exact a_vret F E dX6_workOut_85 hk1 hk2 (e_1)

theorem r_6_workOut_37 {X : Ctx} {mc ms k1 k2 : Nat} (F : Fx X cX6_workOut RX6 3 13 mc ms) (hk1 : k1 ≤ mc) (hk2 : k2 ≤ ms) {Φ : Option Value → HS → List Nat → Prop} (E : Ex X none mc ms Φ) {P O : Nat → Nat → Option Nat} (hP : laP P) {I A : Nat → Nat → Int32} {J : Nat → Nat → Int64} {pl : List Nat} (hB : inB pl) {x1 x2 : Int32}
    (e_1 : Φ none (mC P O I A J) pl) :
    WA X (mC P O I A J) pl k1 k2 37 [(0, .ref 110), (1, .int x1), (2, .int x2)] [] := by
  refine a_goto (tgt := 85) F dX6_workOut_37 (by decide) ?_
  exact a_vret F E dX6_workOut_85 hk1 hk2 (e_1)

theorem r_6_workOut_54 {X : Ctx} {mc ms k1 k2 : Nat} (F : Fx X cX6_workOut RX6 3 13 mc ms) (hk1 : k1 ≤ mc) (hk2 : k2 ≤ ms) {Φ : Option Value → HS → List Nat → Prop} (E : Ex X none mc ms Φ) {P O : Nat → Nat → Option Nat} (hP : laP P) {I A : Nat → Nat → Int32} {J : Nat → Nat → Int64} {pl : List Nat} (hB : inB pl) {x1 x2 : Int32}
    (e_1 : Φ none (mC P O I A J) pl) :
    WA X (mC P O I A J) pl k1 k2 54 [(0, .ref 110), (1, .int x1), (2, .int x2)] [] := by
  refine a_goto (tgt := 85) F dX6_workOut_54 (by decide) ?_
  exact a_vret F E dX6_workOut_85 hk1 hk2 (e_1)

set_option maxRecDepth 100000 in
theorem c_6_workOut (l : Launch) {P O : Nat → Nat → Option Nat} (hP : laP P) (I A : Nat → Nat → Int32) (J : Nat → Nat → Int64) {pl : List Nat} (hB : inB pl) (m a b g : Nat) (B : Nat → Nat) (hm : m ≤ 1) (ha : 1 ≤ a ∧ a ≤ 6) (hb9 : 1 ≤ b ∧ b ≤ 6) (hok : okB B) (hC : clC P O pl) (ht : rtP P pl g) (hb : bdR (A 131) 0 B) (hI : I 130 1 = nI m) : Con l 13 yX6_workOut cX6_workOut 3 none [.ref 110, .int (nI a), .int (nI b)] (mC P O I A J) pl (2 * ((wkF m (min a b) (max a b) B g).2.2.2.2 - g)) (576 * (2 ^ (wkF m (min a b) (max a b) B g).2.2.2.2 - 2 ^ g)) (gsQ P O I A J pl m B (wkF m (min a b) (max a b) B g)) := by
  refine Con.of (by decide) (Nat.le_of_ble_eq_true rfl) (fun X hX9 hn9 F E => ?_)
  have hx : 1 ≤ min a b ∧ min a b ≤ 6 := by omega
  have hy : 1 ≤ max a b ∧ max a b ≤ 6 := by omega
  obtain ⟨I1, hI1⟩ : ∃ I1, up2 (up2 (up2 I 110 7 0) 110 5 0) 110 6 (nI m) = I1 := ⟨_, rfl⟩
  have i1 : ∀ q k, ¬ (q = 110 ∧ 5 ≤ k ∧ k ≤ 7) → I1 q k = I q k := fun q k h => by
    rw [← hI1]
    by_cases c : q = 110
    · subst c; rw [up2_k (fun z => h ⟨rfl, by omega, by omega⟩), up2_k (fun z => h ⟨rfl, by omega, by omega⟩), up2_k (fun z => h ⟨rfl, by omega, by omega⟩)]
    · rw [up2_p c, up2_p c, up2_p c]
  have f0 : frZ P I A J pl P I1 A J pl := ⟨fun _ _ _ => rfl, i1, fun _ _ _ => rfl, fun _ _ _ => rfl, fun _ h => h, fun _ h => Or.inl h⟩
  have t0 : tbS P I1 A J pl m (0, 0, (fun _ _ => 0), (fun _ => 0), g) := by
    refine ⟨ht.1, ht.2.1, ht.2.2, ?_, ?_, ?_, Nat.zero_le _, fun i j _ h => (Nat.not_lt_zero _ h).elim, fun _ => 0, fun i h => (Nat.not_lt_zero _ h).elim, fun i j h => (Nat.not_lt_zero _ h).elim, fun i h => (Nat.not_lt_zero _ h).elim, fun i h => (Nat.not_lt_zero _ h).elim⟩ <;> rw [← hI1]
    · exact (up2_k (by decide)).trans up2_s
    · exact up2_s
    · exact (up2_k (by decide)).trans ((up2_k (by decide)).trans up2_s)
  have hI9 : I1 130 1 = nI m := by rw [i1 130 1 (by omega)]; exact hI
  have h0 := fun x y => iv_0 m x y B (fun _ _ => 0) (fun _ => 0) g
  refine r_6_workOut_0 F (Nat.zero_le _) (Nat.zero_le _) hP hB ?_
  rw [hI, hI1]
  refine a_callV (b := 130) (As := []) (st := []) (ci := 0) F (c_0_isOver (xl X) hP I1 A J hB 130 rfl (hB _ (by decide)) (hB _ (by decide))) ml_6_45 im_yX0_isOver se_yX0_isOver (by decide) (by decide) rfl (hB _ (by decide)) rfl rfl dX6_workOut_25 (by decide) (by omega) (by omega) (hl_r (hB _ (by decide)) (hl_i (hl_i hl_nil))) hs_nil ?_
  rintro _ _ _ ⟨rfl, rfl, rfl⟩ _
  have b0 := hb 0 (by omega)
  have b6 := hb 26 (by omega)
  have o0 : A 131 0 = 15 ↔ B 0 = 15 := by
    have e : A 131 0 = nI (B 0) := b0.1
    rw [e]; exact nI_eq (b := 15) (by omega) (by omega)
  have o6 : A 131 26 = 15 ↔ B 26 = 15 := by
    have e : A 131 26 = nI (B 26) := b6.1
    rw [e]; exact nI_eq (b := 15) (by omega) (by omega)
  have ov : (A 131 0 = 15 ∨ A 131 26 = 15) ↔ overB B := or_congr o0 o6
  have cab : nI a = nI b ↔ a = b := nI_eq (by omega) (by omega)
  have mx : (if nI a < nI b then nI b else nI a) = nI (max a b) := by
    by_cases c : a < b
    · rw [if_pos ((nI_ltI (by omega) (by omega)).mpr c), show max a b = b by omega]
    · rw [if_neg (fun z => c ((nI_ltI (by omega) (by omega)).mp z)), show max a b = a by omega]
  have mn : (if nI b < nI a then nI b else nI a) = nI (min a b) := by
    by_cases c : b < a
    · rw [if_pos ((nI_ltI (by omega) (by omega)).mpr c), show min a b = b by omega]
    · rw [if_neg (fun z => c ((nI_ltI (by omega) (by omega)).mp z)), show min a b = a by omega]
  refine r_6_workOut_28 F (Nat.zero_le _) (Nat.zero_le _) hP hB (fun z w => ?_) (fun z w => ?_) (fun z => ?_)
  · have nov : ¬ overB B := fun y => by rw [if_pos (ov.mpr y)] at z; exact absurd z (by decide)
    have hab : min a b ≠ max a b := fun y => w (cab.mpr (by omega))
    have eW : wkF m (min a b) (max a b) B g = gobF m (min a b) (max a b) B (gobF m (max a b) (min a b) B (0, 0, (fun _ _ => 0), (fun _ => 0), g)) := by unfold wkF; rw [if_neg nov, if_neg hab]
    rw [eW] at F E
    rw [mx, mn]
    have q1 := gob_g m (max a b) (min a b) B (0, 0, (fun _ _ => 0), (fun _ => 0), g)
    have q2 := pw_m q1
    have q3 := gob_g m (min a b) (max a b) B (gobF m (max a b) (min a b) B (0, 0, (fun _ _ => 0), (fun _ => 0), g))
    have q4 := pw_m q3
    have q1 : g ≤ (gobF m (max a b) (min a b) B (0, 0, (fun _ _ => 0), (fun _ => 0), g)).2.2.2.2 := q1
    have q2 : 2 ^ g ≤ 2 ^ (gobF m (max a b) (min a b) B (0, 0, (fun _ _ => 0), (fun _ => 0), g)).2.2.2.2 := q2
    have r1 : ∀ f, 1 ≤ f → f ≤ 25 → cmP B m f (max a b) → rcb m (min a b) (max a b) B 1 (mvB B m f (max a b)) ((32 * f + (f - max a b)) * 1024 ^ 3) := fun f a1 b1 z => ⟨_, rcb_d1 (s := 1) hab (by omega) a1 b1 z⟩
    have r2 : ∀ f, 1 ≤ f → f ≤ 25 → cmP B m f (max a b) → ∀ k, 1 ≤ k → k ≤ 25 → cmP (mvB B m f (max a b)) m k (min a b) → rcb m (min a b) (max a b) B 2 (mvB (mvB B m f (max a b)) m k (min a b)) ((32 * f + (f - max a b)) * 1024 ^ 3 + (32 * k + (k - min a b)) * 1024 ^ 2) := fun f a1 b1 z k d e z2 => rcb_d2 (s := 1) hab (by omega) a1 b1 z d e z2
    refine a_callV (b := 110) (As := [.int (nI (max a b)), .int (nI (min a b))]) (st := []) (ci := 6) F (c_6_goByBoth (xl X) hP I1 A J hB m (min a b) (max a b) (max a b) (min a b) B (0, 0, (fun _ _ => 0), (fun _ => 0), g) hm hx hy hok hy.1 hy.2 hx.1 hx.2 hC t0 hb hI9 (h0 _ _) r1 r2) ml_6_66 im_yX6_goByBoth se_yX6_goByBoth (by decide) (by decide) rfl (hB _ (by decide)) rfl rfl dX6_workOut_68 (by decide) (by show 0 + 2 * ((gobF m (max a b) (min a b) B (0, 0, (fun _ _ => 0), (fun _ => 0), g)).2.2.2.2 - g) ≤ 2 * (_ - g); omega) (by show 0 + 576 * (2 ^ (gobF m (max a b) (min a b) B (0, 0, (fun _ _ => 0), (fun _ => 0), g)).2.2.2.2 - 2 ^ g) ≤ 576 * (_ - 2 ^ g); omega) (hl_r (hB _ (by decide)) (hl_i (hl_i hl_nil))) hs_nil ?_
    rintro _ _ pl2 ⟨rfl, P2, I2, A2, J2, rfl, f2, c2, t2, b2⟩ _
    show WA X _ _ (0 + 0 + 2 * ((gobF m (max a b) (min a b) B (0, 0, (fun _ _ => 0), (fun _ => 0), g)).2.2.2.2 - g)) (0 + 0 + 576 * (2 ^ (gobF m (max a b) (min a b) B (0, 0, (fun _ _ => 0), (fun _ => 0), g)).2.2.2.2 - 2 ^ g)) _ _ _
    have F : Fx X cX6_workOut RX6 3 13 (2 * ((gobF m (min a b) (max a b) B (gobF m (max a b) (min a b) B (0, 0, (fun _ _ => 0), (fun _ => 0), g))).2.2.2.2 - g)) (576 * (2 ^ (gobF m (min a b) (max a b) B (gobF m (max a b) (min a b) B (0, 0, (fun _ _ => 0), (fun _ => 0), g))).2.2.2.2 - 2 ^ g)) := F
    have hB2 := hB
    have hB : inB pl2 := f2.b hB2
    have fy := f0.tr f2
    have hP2 := fy.la hP
    have hI2 : I2 130 1 = nI m := by rw [fy.2.1 130 1 (by omega)]; exact hI
    have iv2 := gob_I hm hx hy hok r1 r2 (h0 (min a b) (max a b))
    refine r_6_workOut_71 F (by omega) (by omega) hP2 hB ?_
    rw [mx, mn]
    refine a_callV (b := 110) (As := [.int (nI (min a b)), .int (nI (max a b))]) (st := []) (ci := 6) F (c_6_goByBoth (xl X) hP2 I2 A2 J2 hB m (min a b) (max a b) (min a b) (max a b) B (gobF m (max a b) (min a b) B (0, 0, (fun _ _ => 0), (fun _ => 0), g)) hm hx hy hok hx.1 hx.2 hy.1 hy.2 c2 t2 b2 hI2 iv2 (fun f a1 b1 z => ⟨_, rcb_d1 (s := 0) hab (by omega) a1 b1 z⟩) (fun f a1 b1 z k d e z2 => rcb_d2 (s := 0) hab (by omega) a1 b1 z d e z2)) ml_6_66 im_yX6_goByBoth se_yX6_goByBoth (by decide) (by decide) rfl (hB _ (by decide)) rfl rfl dX6_workOut_82 (by decide) (by omega) (by omega) (hl_r (hB _ (by decide)) (hl_i (hl_i hl_nil))) hs_nil ?_
    rintro _ _ pl3 ⟨rfl, P3, I3, A3, J3, rfl, f3, c3, t3, b3⟩ _
    refine r_6_workOut_85 F (by omega) (by omega) E ((fy.tr f3).la hP) (f3.b hB) ?_
    exact ⟨rfl, P3, I3, A3, J3, rfl, fy.tr f3, c3, t3, b3⟩
  · have nov : ¬ overB B := fun y => by rw [if_pos (ov.mpr y)] at z; exact absurd z (by decide)
    have e := cab.mp w
    subst e
    have e1 : min a a = a := by omega
    have e2 : max a a = a := by omega
    have eW : wkF m (min a a) (max a a) B g = extF m a 4 B 25 0 (0, 0, (fun _ _ => 0), (fun _ => 0), g) := by rw [e1, e2]; unfold wkF; rw [if_neg nov, if_pos rfl]
    rw [eW] at F E
    have q1 : g ≤ (extF m a 4 B 25 0 (0, 0, (fun _ _ => 0), (fun _ => 0), g)).2.2.2.2 := ext_g m a 4 B 25 0 (0, 0, (fun _ _ => 0), (fun _ => 0), g)
    have q2 := pw_m q1
    refine a_callV (b := 110) (As := [.int (nI a), .int (nI (4 - 4)), .int (nI 25), .long (lN 0)]) (st := []) (ci := 6) F (c_6_extend (xl X) m a B hm ha hok 4 (Nat.le_refl _) P hP I1 A J pl hB B 25 0 (0, 0, (fun _ _ => 0), (fun _ => 0), g) (Nat.le_refl _) hC t0 hb hI9 (h0 a a) (rcb_0 m a a B)) ml_6_53 im_yX6_extend se_yX6_extend (by decide) (by decide) rfl (hB _ (by decide)) rfl rfl dX6_workOut_51 (by decide) (by show 0 + 2 * ((extF m a 4 B 25 0 (0, 0, (fun _ _ => 0), (fun _ => 0), g)).2.2.2.2 - g) ≤ 2 * (_ - g); omega) (by show 0 + 576 * (2 ^ (extF m a 4 B 25 0 (0, 0, (fun _ _ => 0), (fun _ => 0), g)).2.2.2.2 - 2 ^ g) ≤ 576 * (_ - 2 ^ g); omega) (hl_r (hB _ (by decide)) (hl_i (hl_i hl_nil))) hs_nil ?_
    rintro _ _ pl2 ⟨rfl, P2, I2, A2, J2, rfl, f2, c2, t2, b2⟩ _
    refine r_6_workOut_54 F (by show 0 + 0 + 2 * ((extF m a 4 B 25 0 (0, 0, (fun _ _ => 0), (fun _ => 0), g)).2.2.2.2 - g) ≤ 2 * (_ - g); omega) (by show 0 + 0 + 576 * (2 ^ (extF m a 4 B 25 0 (0, 0, (fun _ _ => 0), (fun _ => 0), g)).2.2.2.2 - 2 ^ g) ≤ 576 * (_ - 2 ^ g); omega) E ((f0.tr f2).la hP) (f2.b hB) ?_
    exact ⟨rfl, P2, I2, A2, J2, rfl, f0.tr f2, c2, t2, b2⟩
  · have hov : overB B := Classical.byContradiction (fun y => z (if_neg (fun h => y (ov.mp h))))
    have eW : wkF m (min a b) (max a b) B g = recF m (0, 0, (fun _ _ => 0), (fun _ => 0), g) B 0 0 := by unfold wkF; rw [if_pos hov]
    rw [eW] at F E
    obtain ⟨S1, iv1⟩ := h0 (min a b) (max a b)
    obtain ⟨-, r2, -⟩ := rec_S (v := 0) hm hx hy hok iv1 (rcb_0 m (min a b) (max a b) B) (by omega)
    have q1 : g ≤ (recF m (0, 0, (fun _ _ => 0), (fun _ => 0), g) B 0 0).2.2.2.2 := rec_g m (0, 0, (fun _ _ => 0), (fun _ => 0), g) B 0 0
    have q2 := pw_m q1
    refine a_callV (b := 110) (As := [.long (lN 0), .int (nI 0)]) (st := []) (ci := 6) F (c_6_record (xl X) hP I1 A J hB m 0 0 B (0, 0, (fun _ _ => 0), (fun _ => 0), g) hm hC t0 hb (okB_dg hok) (by decide) (by omega) (Nat.zero_le _) (by omega)) ml_6_49 im_yX6_record se_yX6_record (by decide) (by decide) rfl (hB _ (by decide)) rfl rfl dX6_workOut_34 (by decide) (by show 0 + 2 * ((recF m (0, 0, (fun _ _ => 0), (fun _ => 0), g) B 0 0).2.2.2.2 - g) ≤ 2 * (_ - g); omega) (by show 0 + 576 * (2 ^ (recF m (0, 0, (fun _ _ => 0), (fun _ => 0), g) B 0 0).2.2.2.2 - 2 ^ g) ≤ 576 * (_ - 2 ^ g); omega) (hl_r (hB _ (by decide)) (hl_i (hl_i hl_nil))) hs_nil ?_
    rintro _ _ pl2 ⟨rfl, P2, I2, A2, J2, rfl, f2, c2, t2⟩ _
    refine r_6_workOut_37 F (by show 0 + 0 + 2 * ((recF m (0, 0, (fun _ _ => 0), (fun _ => 0), g) B 0 0).2.2.2.2 - g) ≤ 2 * (_ - g); omega) (by show 0 + 0 + 576 * (2 ^ (recF m (0, 0, (fun _ _ => 0), (fun _ => 0), g) B 0 0).2.2.2.2 - 2 ^ g) ≤ 576 * (_ - 2 ^ g); omega) E ((f0.tr f2.y).la hP) (f2.b hB) ?_
    refine ⟨rfl, P2, I2, A2, J2, rfl, f0.tr f2.y, c2, t2, ?_⟩
    rw [f2.2.2.1 131 (by omega)]; exact hb
