theorem lp_I {ok : Nat → Prop} {st : Nat → TB → TB} {τ : TB} {Iv : TB → Prop} (h0 : Iv τ) : ∀ n, (∀ f σ, 1 ≤ f → f ≤ n → ok f → Iv σ → Iv (st f σ)) → Iv (lpF ok st n τ)
  | 0, _ => h0
  | n + 1, h => by
    have ih := lp_I (ok := ok) (st := st) h0 n (fun f σ a b => h f σ a (by omega))
    by_cases c : ok (n + 1)
    · rw [lp_y c]; exact h (n + 1) _ (by omega) (Nat.le_refl _) c ih
    · rw [lp_n c]; exact ih
theorem al_I {ok : Nat → Prop} {st : Nat → TB → TB} {el : TB → TB} {τ : TB} {n : Nat} {Iv : TB → Prop} (h0 : Iv τ) (h : ∀ f σ, 1 ≤ f → f ≤ n → ok f → Iv σ → Iv (st f σ)) (h2 : (¬ ∃ f, 1 ≤ f ∧ f ≤ n ∧ ok f) → Iv (el τ)) : Iv (alF ok st el n τ) := by
  unfold alF
  by_cases c : ∃ f, 1 ≤ f ∧ f ≤ n ∧ ok f
  · rw [if_pos c]; exact lp_I h0 n h
  · rw [if_neg c]; exact h2 c
def ivE (m x y : Nat) (B0 : Nat → Nat) (τ : TB) : Prop := ∃ S, ivT m x y B0 S τ
theorem rec_I {m x y v w : Nat} {B0 B : Nat → Nat} {τ : TB} (hm : m ≤ 1) (hx : 1 ≤ x ∧ x ≤ 6) (hy : 1 ≤ y ∧ y ≤ 6) (hok : okB B0) (hB : rcb m x y B0 (v / 2) B w) (hv : v ≤ 9) (h : ivE m x y B0 τ) : ivE m x y B0 (recF m τ B w v) := by
  obtain ⟨S, h⟩ := h
  exact ⟨_, (rec_S hm hx hy hok h hB hv).1⟩
theorem gon_I {m x y d v w : Nat} {B0 B : Nat → Nat} {τ : TB} (hm : m ≤ 1) (hx : 1 ≤ x ∧ x ≤ 6) (hy : 1 ≤ y ∧ y ≤ 6) (hok : okB B0) (hv1 : v = 2 ∨ v = 3) (hr : rcb m x y B0 1 B w) (hr2 : ∀ f, 1 ≤ f → f ≤ 25 → cmP B m f d → rcb m x y B0 2 (mvB B m f d) (w + (32 * f + (f - d)) * 1024 ^ 2)) (h : ivE m x y B0 τ) : ivE m x y B0 (gonF m d B w v τ) :=
  al_I h (fun f σ a b c z => rec_I hm hx hy hok (hr2 f a b c) (by omega) z) (fun _ => rec_I hm hx hy hok (by rcases hv1 with rfl | rfl <;> exact hr) (by omega) h)
noncomputable def gobF (m d e : Nat) (B : Nat → Nat) (τ : TB) : TB := alF (fun f => cmP B m f d) (fun f τ => gonF m e (mvB B m f d) ((32 * f + (f - d)) * 1024 ^ 3) (if e < d then 3 else 2) τ) (fun τ => recF m τ B 0 0) 25 τ
theorem rcb_0 (m x y : Nat) (B0 : Nat → Nat) : rcb m x y B0 0 B0 0 := ⟨L0F x y, rfl, rfl, rfl⟩
theorem gob_I {m x y d e : Nat} {B0 : Nat → Nat} {τ : TB} (hm : m ≤ 1) (hx : 1 ≤ x ∧ x ≤ 6) (hy : 1 ≤ y ∧ y ≤ 6) (hok : okB B0) (hr1 : ∀ f, 1 ≤ f → f ≤ 25 → cmP B0 m f d → rcb m x y B0 1 (mvB B0 m f d) ((32 * f + (f - d)) * 1024 ^ 3)) (hr2 : ∀ f, 1 ≤ f → f ≤ 25 → cmP B0 m f d → ∀ k, 1 ≤ k → k ≤ 25 → cmP (mvB B0 m f d) m k e → rcb m x y B0 2 (mvB (mvB B0 m f d) m k e) ((32 * f + (f - d)) * 1024 ^ 3 + (32 * k + (k - e)) * 1024 ^ 2)) (h : ivE m x y B0 τ) : ivE m x y B0 (gobF m d e B0 τ) :=
  al_I h (fun f σ a b c z => gon_I hm hx hy hok (by split <;> omega) (hr1 f a b c) (hr2 f a b c) z) (fun _ => rec_I hm hx hy hok (rcb_0 m x y B0) (by omega) h)
theorem gob_g (m d e : Nat) (B : Nat → Nat) (τ : TB) : τ.2.2.2.2 ≤ (gobF m d e B τ).2.2.2.2 := al_0 (fun _ _ => gon_g _ _ _ _ _ _) (fun _ => rec_g _ _ _ _ _)

theorem r_6_goByBoth_0 {X : Ctx} {mc ms k1 k2 : Nat} (F : Fx X cX6_goByBoth RX6 7 5 mc ms) (hk1 : k1 ≤ mc) (hk2 : k2 ≤ ms) {P O : Nat → Nat → Option Nat} (hP : laP P) {I A : Nat → Nat → Int32} {J : Nat → Nat → Int64} {pl : List Nat} (hB : inB pl) {x1 x2 : Int32}
    (e_1 : WA X (mC P O I A J) pl k1 k2 5 [(0, .ref 110), (1, .int x1), (2, .int x2), (3, .int 0), (4, .int 1)] []) :
    WA X (mC P O I A J) pl k1 k2 0 [(0, .ref 110), (1, .int x1), (2, .int x2)] [] := by
  refine a_iconst (v := 0) F dX6_goByBoth_0 (by decide) ?_
  refine a_istore_n F dX6_goByBoth_1 rfl (by decide) rfl ?_
  refine a_iconst (v := 1) F dX6_goByBoth_2 (by decide) ?_
  refine a_istore F dX6_goByBoth_3 (by decide) rfl ?_
  refine a_sub [2, 3, 4, 1, 0] rfl ?_
  exact e_1

theorem r_6_goByBoth_5 {X : Ctx} {mc ms k1 k2 : Nat} (F : Fx X cX6_goByBoth RX6 7 5 mc ms) (hk1 : k1 ≤ mc) (hk2 : k2 ≤ ms) {Φ : Option Value → HS → List Nat → Prop} (E : Ex X none mc ms Φ) {P O : Nat → Nat → Option Nat} (hP : laP P) {I A : Nat → Nat → Int32} {J : Nat → Nat → Int64} {pl : List Nat} (hB : inB pl) {x1 x2 x3 x4 : Int32}
    (e_1 : (25 < x4) → (¬ x3 = 0) → Φ none (mC P O I A J) pl)
    (e_2 : (25 < x4) → (x3 = 0) → WA X (mC P O I A J) pl k1 k2 100 [(0, .ref 110), (1, .int x1), (2, .int x2), (3, .int x3), (4, .int x4)] [.int 0, .long 0, .ref 110])
    (e_3 : (¬ (25 < x4)) → WA X (mC P O I A J) pl k1 k2 19 [(0, .ref 110), (1, .int x1), (2, .int x2), (3, .int x3), (4, .int x4)] [.int x1, .int x4, .ref 130]) :
    WA X (mC P O I A J) pl k1 k2 5 [(0, .ref 110), (1, .int x1), (2, .int x2), (3, .int x3), (4, .int x4)] [] := by
  refine a_iload F 4 dX6_goByBoth_5 rfl ?_
  refine a_bipush (v := 25) F dX6_goByBoth_7 (by decide) ?_
  refine a_icmp_gt (tgt := 93) F dX6_goByBoth_9 (by decide) (fun (c_1 : 25 < x4) => ?_) (fun (c_1 : ¬ (25 < x4)) => ?_)
  · refine a_iload_n F 3 dX6_goByBoth_93 rfl rfl ?_
    refine a_if_ne (tgt := 103) F dX6_goByBoth_94 (by decide) (fun (c_2 : ¬ x3 = 0) => ?_) (fun (c_2 : x3 = 0) => ?_)
    · exact a_vret F E dX6_goByBoth_103 hk1 hk2 (e_1 c_1 c_2)
    · refine a_aload_n F 0 dX6_goByBoth_97 rfl rfl ?_
      refine a_lconst (v := 0) F dX6_goByBoth_98 (by decide) ?_
      refine a_iconst (v := 0) F dX6_goByBoth_99 (by decide) ?_
      exact e_2 c_1 c_2
  · refine a_aload_n F 0 dX6_goByBoth_12 rfl rfl ?_
    refine a_getr (b := 130) F fl_6_26 rfl (hB _ (by decide)) rfl ((hP 110 0 (by decide)).trans rfl) dX6_goByBoth_13 ?_
    refine a_iload F 4 dX6_goByBoth_16 rfl ?_
    refine a_iload_n F 1 dX6_goByBoth_18 rfl rfl ?_
    exact e_3 c_1

theorem r_6_goByBoth_87 {X : Ctx} {mc ms k1 k2 : Nat} (F : Fx X cX6_goByBoth RX6 7 5 mc ms) (hk1 : k1 ≤ mc) (hk2 : k2 ≤ ms) {P O : Nat → Nat → Option Nat} (hP : laP P) {I A : Nat → Nat → Int32} {J : Nat → Nat → Int64} {pl : List Nat} (hB : inB pl) {x1 x2 x3 x4 : Int32}
    (e_1 : WA X (mC P O I A J) pl k1 k2 5 [(0, .ref 110), (1, .int x1), (2, .int x2), (3, .int x3), (4, .int (x4 + 1))] []) :
    WA X (mC P O I A J) pl k1 k2 87 [(0, .ref 110), (1, .int x1), (2, .int x2), (3, .int x3), (4, .int x4)] [] := by
  refine a_iinc (v := x4 + 1) F 4 dX6_goByBoth_87 rfl rfl (by decide) rfl ?_
  refine a_goto (tgt := 5) F dX6_goByBoth_90 (by decide) ?_
  refine a_sub [1, 2, 3, 4, 0] rfl ?_
  exact e_1

--
theorem r_6_goByBoth_22 {X : Ctx} {mc ms k1 k2 : Nat} (F : Fx X cX6_goByBoth RX6 7 5 mc ms) (hk1 : k1 ≤ mc) (hk2 : k2 ≤ ms) {P O : Nat → Nat → Option Nat} (hP : laP P) {I A : Nat → Nat → Int32} {J : Nat → Nat → Int64} {pl : List Nat} (hB : inB pl) {x1 x2 x3 x4 x9 : Int32}
    (e_1 : (x9 = 0) → WA X (mC P O I A J) pl k1 k2 87 [(0, .ref 110), (1, .int x1), (2, .int x2), (3, .int x3), (4, .int x4)] [])
    (e_2 : (¬ (x9 = 0)) → WA X (mC P O I A J) pl k1 k2 43 [(5, .int (if (x4 - x1) < (0 : Int32) then (0 : Int32) else (x4 - x1))), (0, .ref 110), (1, .int x1), (2, .int x2), (3, .int x3), (4, .int x4)] [.int (if (x4 - x1) < (0 : Int32) then (0 : Int32) else (x4 - x1)), .int x4, .ref 130]) :
    WA X (mC P O I A J) pl k1 k2 22 [(0, .ref 110), (1, .int x1), (2, .int x2), (3, .int x3), (4, .int x4)] [.int x9] := by
  refine a_if_eq (tgt := 87) F dX6_goByBoth_22 (by decide) (fun (c_3 : x9 = 0) => ?_) (fun (c_3 : ¬ (x9 = 0)) => ?_)
  · exact e_1 c_3
  · refine a_iload F 4 dX6_goByBoth_25 rfl ?_
    refine a_iload_n F 1 dX6_goByBoth_27 rfl rfl ?_
    refine a_isub F dX6_goByBoth_28 ?_
    refine a_iconst (v := 0) F dX6_goByBoth_29 (by decide) ?_
    refine a_mmax F mxl_6_57 (by decide) hk1 hk2 (by decide) dX6_goByBoth_30 ?_
    refine a_istore F dX6_goByBoth_33 (by decide) rfl ?_
    refine a_aload_n F 1 dX6_goByBoth_35 rfl rfl ?_
    refine a_getr (b := 130) F fl_6_26 rfl (hB _ (by decide)) rfl ((hP 110 0 (by decide)).trans rfl) dX6_goByBoth_36 ?_
    refine a_iload F 5 dX6_goByBoth_39 rfl ?_
    refine a_iload F 0 dX6_goByBoth_41 rfl ?_
    exact e_2 c_3

theorem r_6_goByBoth_46 {X : Ctx} {mc ms k1 k2 : Nat} (F : Fx X cX6_goByBoth RX6 7 5 mc ms) (hk1 : k1 ≤ mc) (hk2 : k2 ≤ ms) {P O : Nat → Nat → Option Nat} (hP : laP P) {I A : Nat → Nat → Int32} {J : Nat → Nat → Int64} {pl : List Nat} (hB : inB pl) {x1 x2 x3 x4 x5 x9 : Int32}
    (e_1 : WA X (mC P O I A J) pl k1 k2 56 [(6, .int x9), (0, .ref 110), (1, .int x1), (2, .int x2), (3, .int x3), (4, .int x4), (5, .int x5)] [.int x5, .int x4, .int 0, .long 0, .int x2, .ref 110]) :
    WA X (mC P O I A J) pl k1 k2 46 [(0, .ref 110), (1, .int x1), (2, .int x2), (3, .int x3), (4, .int x4), (5, .int x5)] [.int x9] := by
  refine a_istore F dX6_goByBoth_46 (by decide) rfl ?_
  refine a_aload_n F 1 dX6_goByBoth_48 rfl rfl ?_
  refine a_iload_n F 3 dX6_goByBoth_49 rfl rfl ?_
  refine a_lconst (v := 0) F dX6_goByBoth_50 (by decide) ?_
  refine a_iconst (v := 0) F dX6_goByBoth_51 (by decide) ?_
  refine a_iload F 5 dX6_goByBoth_52 rfl ?_
  refine a_iload F 6 dX6_goByBoth_54 rfl ?_
  exact e_1

theorem r_6_goByBoth_59 {X : Ctx} {mc ms k1 k2 : Nat} (F : Fx X cX6_goByBoth RX6 7 5 mc ms) (hk1 : k1 ≤ mc) (hk2 : k2 ≤ ms) {P O : Nat → Nat → Option Nat} (hP : laP P) {I A : Nat → Nat → Int32} {J : Nat → Nat → Int64} {pl : List Nat} (hB : inB pl) {x1 x2 x3 x4 x5 x6 : Int32} {y9 : Int64}
    (e_1 : (x1 ≤ x2) → WA X (mC P O I A J) pl k1 k2 69 [(0, .ref 110), (1, .int x1), (2, .int x2), (3, .int x3), (4, .int x4), (5, .int x5), (6, .int x6)] [.int 2, .long y9, .int x2, .ref 110])
    (e_2 : (¬ (x1 ≤ x2)) → WA X (mC P O I A J) pl k1 k2 69 [(0, .ref 110), (1, .int x1), (2, .int x2), (3, .int x3), (4, .int x4), (5, .int x5), (6, .int x6)] [.int 3, .long y9, .int x2, .ref 110]) :
    WA X (mC P O I A J) pl k1 k2 59 [(0, .ref 110), (1, .int x1), (2, .int x2), (3, .int x3), (4, .int x4), (5, .int x5), (6, .int x6)] [.long y9, .int x2, .ref 110] := by
  refine a_iload_n F 1 dX6_goByBoth_59 rfl rfl ?_
  refine a_iload_n F 2 dX6_goByBoth_60 rfl rfl ?_
  refine a_icmp_le (tgt := 68) F dX6_goByBoth_61 (by decide) (fun (c_4 : x1 ≤ x2) => ?_) (fun (c_4 : ¬ (x1 ≤ x2)) => ?_)
  · refine a_iconst (v := 2) F dX6_goByBoth_68 (by decide) ?_
    exact e_1 c_4
  · refine a_iconst (v := 3) F dX6_goByBoth_64 (by decide) ?_
    refine a_goto (tgt := 69) F dX6_goByBoth_65 (by decide) ?_
    exact e_2 c_4

theorem r_6_goByBoth_72 {X : Ctx} {mc ms k1 k2 : Nat} (F : Fx X cX6_goByBoth RX6 7 5 mc ms) (hk1 : k1 ≤ mc) (hk2 : k2 ≤ ms) {P O : Nat → Nat → Option Nat} (hP : laP P) {I A : Nat → Nat → Int32} {J : Nat → Nat → Int64} {pl : List Nat} (hB : inB pl) {x1 x2 x3 x4 x5 x6 : Int32}
    (e_1 : WA X (mC P O I A J) pl k1 k2 82 [(0, .ref 110), (1, .int x1), (2, .int x2), (3, .int x3), (4, .int x4), (5, .int x5), (6, .int x6)] [.int x6, .int x5, .int x4, .ref 130]) :
    WA X (mC P O I A J) pl k1 k2 72 [(0, .ref 110), (1, .int x1), (2, .int x2), (3, .int x3), (4, .int x4), (5, .int x5), (6, .int x6)] [] := by
  refine a_aload_n F 0 dX6_goByBoth_72 rfl rfl ?_
  refine a_getr (b := 130) F fl_6_26 rfl (hB _ (by decide)) rfl ((hP 110 0 (by decide)).trans rfl) dX6_goByBoth_73 ?_
  refine a_iload F 4 dX6_goByBoth_76 rfl ?_
  refine a_iload F 5 dX6_goByBoth_78 rfl ?_
  refine a_iload F 6 dX6_goByBoth_80 rfl ?_
  exact e_1

theorem r_6_goByBoth_85 {X : Ctx} {mc ms k1 k2 : Nat} (F : Fx X cX6_goByBoth RX6 7 5 mc ms) (hk1 : k1 ≤ mc) (hk2 : k2 ≤ ms) {P O : Nat → Nat → Option Nat} (hP : laP P) {I A : Nat → Nat → Int32} {J : Nat → Nat → Int64} {pl : List Nat} (hB : inB pl) {x1 x2 x3 x4 x5 x6 : Int32}
    (e_1 : WA X (mC P O I A J) pl k1 k2 87 [(0, .ref 110), (1, .int x1), (2, .int x2), (3, .int 1), (4, .int x4)] []) :
    WA X (mC P O I A J) pl k1 k2 85 [(0, .ref 110), (1, .int x1), (2, .int x2), (3, .int x3), (4, .int x4), (5, .int x5), (6, .int x6)] [] := by
  refine a_iconst (v := 1) F dX6_goByBoth_85 (by decide) ?_
  refine a_istore_n F dX6_goByBoth_86 rfl (by decide) rfl ?_
  refine a_sub [1, 2, 3, 0, 4] rfl ?_
  exact e_1

theorem r_6_goByBoth_103 {X : Ctx} {mc ms k1 k2 : Nat} (F : Fx X cX6_goByBoth RX6 7 5 mc ms) (hk1 : k1 ≤ mc) (hk2 : k2 ≤ ms) {Φ : Option Value → HS → List Nat → Prop} (E : Ex X none mc ms Φ) {P O : Nat → Nat → Option Nat} (hP : laP P) {I A : Nat → Nat → Int32} {J : Nat → Nat → Int64} {pl : List Nat} (hB : inB pl) {x1 x2 x3 x4 : Int32}
    (e_1 : Φ none (mC P O I A J) pl) :
    WA X (mC P O I A J) pl k1 k2 103 [(0, .ref 110), (1, .int x1), (2, .int x2), (3, .int x3), (4, .int x4)] [] := by
  exact a_vret F E dX6_goByBoth_103 hk1 hk2 (e_1)

set_option maxRecDepth 100000 in
theorem c_6_goByBoth (l : Launch) {P O : Nat → Nat → Option Nat} (hP : laP P) (I A : Nat → Nat → Int32) (J : Nat → Nat → Int64) {pl : List Nat} (hB : inB pl) (m x y d e : Nat) (B0 : Nat → Nat) (τ : TB) (hm : m ≤ 1) (hx : 1 ≤ x ∧ x ≤ 6) (hy : 1 ≤ y ∧ y ≤ 6) (hok0 : okB B0) (hd1 : 1 ≤ d) (hd6 : d ≤ 6) (he1 : 1 ≤ e) (he6 : e ≤ 6) (hC : clC P O pl) (ht : tbS P I A J pl m τ) (hb : bdR (A 131) 0 B0) (hI : I 130 1 = nI m) (hiv : ivE m x y B0 τ) (hr1 : ∀ f, 1 ≤ f → f ≤ 25 → cmP B0 m f d → rcb m x y B0 1 (mvB B0 m f d) ((32 * f + (f - d)) * 1024 ^ 3)) (hr2 : ∀ f, 1 ≤ f → f ≤ 25 → cmP B0 m f d → ∀ k, 1 ≤ k → k ≤ 25 → cmP (mvB B0 m f d) m k e → rcb m x y B0 2 (mvB (mvB B0 m f d) m k e) ((32 * f + (f - d)) * 1024 ^ 3 + (32 * k + (k - e)) * 1024 ^ 2)) : Con l 5 yX6_goByBoth cX6_goByBoth 7 none [.ref 110, .int (nI d), .int (nI e)] (mC P O I A J) pl (2 * ((gobF m d e B0 τ).2.2.2.2 - τ.2.2.2.2)) (576 * (2 ^ (gobF m d e B0 τ).2.2.2.2 - 2 ^ τ.2.2.2.2)) (gsQ P O I A J pl m B0 (gobF m d e B0 τ)) := by
  refine Con.of (by decide) (Nat.le_of_ble_eq_true rfl) (fun X hX9 hn9 F E => ?_)
  obtain ⟨vv, hvv⟩ : ∃ vv, (if e < d then 3 else 2) = vv := ⟨_, rfl⟩
  have hv1 : vv = 2 ∨ vv = 3 := by rw [← hvv]; split <;> omega
  have gm := fun (k : Nat) (hk : k ≤ 25) => al_g (ok := (fun f => cmP B0 m f d)) (st := (fun f τ => gonF m e (mvB B0 m f d) ((32 * f + (f - d)) * 1024 ^ 3) (if e < d then 3 else 2) τ)) (el := fun τ => recF m τ B0 0 0) (τ := τ) (fun _ _ => gon_g _ _ _ _ _ _) (fun _ => rec_g _ _ _ _ _) hk
  have g0 := fun (k : Nat) => lp_g (ok := (fun f => cmP B0 m f d)) (st := (fun f τ => gonF m e (mvB B0 m f d) ((32 * f + (f - d)) * 1024 ^ 3) (if e < d then 3 else 2) τ)) (τ := τ) (fun _ _ => gon_g _ _ _ _ _ _) (a := 0) k (Nat.zero_le _)
  obtain ⟨tk, htk⟩ : ∃ tk : Nat → TB, (fun k => lpF (fun f => cmP B0 m f d) (fun f τ => gonF m e (mvB B0 m f d) ((32 * f + (f - d)) * 1024 ^ 3) (if e < d then 3 else 2) τ) k τ) = tk := ⟨_, rfl⟩
  have ek : ∀ k, lpF (fun f => cmP B0 m f d) (fun f τ => gonF m e (mvB B0 m f d) ((32 * f + (f - d)) * 1024 ^ 3) (if e < d then 3 else 2) τ) k τ = tk k := fun k => by rw [← htk]
  have ky : ∀ k, cmP B0 m (k + 1) d → tk (k + 1) = gonF m e (mvB B0 m (k + 1) d) ((32 * (k + 1) + (k + 1 - d)) * 1024 ^ 3) vv (tk k) := fun k h => by rw [← ek, ← ek, ← hvv]; exact lp_y h
  have kn : ∀ k, ¬ cmP B0 m (k + 1) d → tk (k + 1) = tk k := fun k h => by rw [← ek, ← ek]; exact lp_n h
  have k0 : tk 0 = τ := by rw [← ek]; rfl
  have gm : ∀ k, k ≤ 25 → (tk k).2.2.2.2 ≤ (gobF m d e B0 τ).2.2.2.2 := fun k hk => by rw [← ek]; exact gm k hk
  have g0 : ∀ k, τ.2.2.2.2 ≤ (tk k).2.2.2.2 := fun k => by rw [← ek]; exact g0 k
  have eG1 : (∃ f, 1 ≤ f ∧ f ≤ 25 ∧ cmP B0 m f d) → gobF m d e B0 τ = tk 25 := fun h => by rw [← ek]; unfold gobF alF; rw [if_pos h]
  have eG0 : (¬ ∃ f, 1 ≤ f ∧ f ≤ 25 ∧ cmP B0 m f d) → gobF m d e B0 τ = recF m τ B0 0 0 := fun h => by unfold gobF alF; rw [if_neg h]
  clear htk
  have lp : ∀ f n (z5 : Int32) (P1 : Nat → Nat → Option Nat) (I1 A1 : Nat → Nat → Int32) (J1 : Nat → Nat → Int64) (pl1 : List Nat) (k1 k2 : Nat), n + f = 26 → 1 ≤ n → (z5 = 0 ↔ ¬ ∃ f, 1 ≤ f ∧ f < n ∧ cmP B0 m f d) → frZ P I A J pl P1 I1 A1 J1 pl1 → clC P1 O pl1 → tbS P1 I1 A1 J1 pl1 m (tk (n - 1)) → bdR (A1 131) 0 B0 → ivE m x y B0 (tk (n - 1)) → k1 ≤ 2 * ((tk (n - 1)).2.2.2.2 - τ.2.2.2.2) → k2 ≤ 576 * (2 ^ (tk (n - 1)).2.2.2.2 - 2 ^ τ.2.2.2.2) → WA X (mC P1 O I1 A1 J1) pl1 k1 k2 5 [(0, .ref 110), (1, .int (nI d)), (2, .int (nI e)), (3, .int z5), (4, .int (nI n))] [] := by
    intro f
    induction f with
    | zero =>
      intro n z5 P1 I1 A1 J1 pl1 k1 k2 hn n1 hz fy c1 t1 b1 iv1 h1 h2
      obtain rfl : n = 26 := by omega
      rw [show 26 - 1 = 25 from rfl] at t1 iv1 h1 h2
      have hB : inB pl1 := fy.b hB
      have q1 := gm 25 (Nat.le_refl _)
      have q2 := g0 25
      have q3 := pw_m q1
      have q4 := pw_m q2
      refine r_6_goByBoth_5 F (by omega) (by omega) E (fy.la hP) hB (fun _ z => ?_) (fun _ z => ?_) (fun z => absurd (by decide) z)
      · have any : ∃ f, 1 ≤ f ∧ f ≤ 25 ∧ cmP B0 m f d := by
          obtain ⟨f, a, b, c⟩ := Classical.not_not.mp (mt hz.mpr z)
          exact ⟨f, a, by omega, c⟩
        rw [eG1 any]
        exact ⟨rfl, P1, I1, A1, J1, rfl, fy, c1, t1, b1⟩
      · have nany : ¬ ∃ f, 1 ≤ f ∧ f ≤ 25 ∧ cmP B0 m f d := fun ⟨f, a, b, c⟩ => hz.mp z ⟨f, a, by omega, c⟩
        have e25 : tk 25 = τ := by rw [← ek]; exact lp_0 25 (fun f a b c => nany ⟨f, a, b, c⟩)
        rw [e25] at t1 iv1 h1 h2
        have eG := eG0 nany
        obtain ⟨S1, iv1⟩ := iv1
        obtain ⟨r1, r2, r3⟩ := rec_S (v := 0) hm hx hy hok0 iv1 (rcb_0 m x y B0) (by omega)
        have q5 := rec_g m τ B0 0 0
        have q6 := pw_m q5
        rw [eG] at F E
        refine a_callV (b := 110) (As := [.long (lN 0), .int (nI 0)]) (st := []) (ci := 6) F (c_6_record (xl X) (fy.la hP) I1 A1 J1 hB m 0 0 B0 τ hm c1 t1 b1 (okB_dg hok0) (by decide) (by omega) (by have := iv1.1; omega) (by omega)) ml_6_49 im_yX6_record se_yX6_record (by decide) (by decide) rfl (hB _ (by decide)) rfl rfl dX6_goByBoth_100 (by decide) (by omega) (by omega) (hl_r (hB _ (by decide)) (hl_i (hl_i (hl_i (hl_i hl_nil))))) hs_nil ?_
        rintro _ _ pl2 ⟨rfl, P2, I2, A2, J2, rfl, fx2, c2, tb2⟩ _
        refine r_6_goByBoth_103 F (by omega) (by omega) E ((fy.tr fx2.y).la hP) (fx2.b hB) ⟨rfl, P2, I2, A2, J2, rfl, fy.tr fx2.y, c2, tb2, ?_⟩
        rw [fx2.2.2.1 131 (by omega)]; exact b1
    | succ f ih =>
      intro n z5 P1 I1 A1 J1 pl1 k1 k2 hn n1 hz fy c1 t1 b1 iv1 h1 h2
      have n25 : n ≤ 25 := by omega
      have hB : inB pl1 := fy.b hB
      have hP1 := fy.la hP
      have hI1 : I1 130 1 = nI m := by rw [fy.2.1 130 1 (by omega)]; exact hI
      have nlt : ¬ (25 : Int32) < nI n := fun z => by have := (nI_gtn 25 (by omega) (by omega)).mp z; omega
      have q1 := gm (n - 1) (by omega)
      have q2 := g0 (n - 1)
      have q3 := pw_m q1
      have q4 := pw_m q2
      refine r_6_goByBoth_5 F (by omega) (by omega) E hP1 hB (fun z => absurd z nlt) (fun z => absurd z nlt) (fun _ => ?_)
      refine a_callV (b := 130) (As := [.int (nI n), .int (nI d)]) (st := []) (ci := 0) F (c_0_canMove (xl X) hP1 I1 A1 J1 hB 130 rfl (hB _ (by decide)) (hB _ (by decide)) n d m B0 n25 hd1 hd6 hm hI1 b1) ml_6_70 im_yX0_canMove se_yX0_canMove (by decide) (by decide) rfl (hB _ (by decide)) rfl rfl dX6_goByBoth_19 (by decide) (by omega) (by omega) (hl_r (hB _ (by decide)) (hl_i (hl_i (hl_i (hl_i hl_nil))))) hs_nil ?_
      rintro _ _ _ ⟨rfl, rfl, rfl⟩ _
      refine r_6_goByBoth_22 F (by omega) (by omega) hP1 hB (fun z => ?_) (fun z => ?_)
      · have nc : ¬ cmP B0 m n d := fun h => by rw [if_pos ⟨n1, h⟩] at z; exact absurd z (by decide)
        have en := kn (n - 1) (by rw [show n - 1 + 1 = n by omega]; exact nc)
        rw [show n - 1 + 1 = n by omega] at en
        refine r_6_goByBoth_87 F (by omega) (by omega) hP1 hB ?_
        rw [nI_1]
        refine ih (n + 1) z5 P1 I1 A1 J1 pl1 _ _ (by omega) (by omega) (hz.trans (not_congr ⟨fun ⟨f, a, b, c⟩ => ⟨f, a, by omega, c⟩, fun ⟨f, a, b, c⟩ => ⟨f, a, ?_, c⟩⟩)) fy c1 ?_ b1 ?_ ?_ ?_
        · by_cases y9 : f = n
          · subst y9; exact absurd c nc
          · omega
        all_goals rw [show n + 1 - 1 = n by omega, en]
        · exact t1
        · exact iv1
        · exact h1
        · exact h2
      · have hc : cmP B0 m n d := Classical.byContradiction (fun h => z (if_neg (fun y => h y.2)))
        have en := ky (n - 1) (by rw [show n - 1 + 1 = n by omega]; exact hc)
        rw [show n - 1 + 1 = n by omega] at en
        rw [to_n n25 hd6]
        refine a_callV (b := 130) (As := [.int (nI n), .int (nI (n - d))]) (st := []) (ci := 0) F (c_0_move (xl X) hP1 I1 A1 J1 hB 130 rfl (hB _ (by decide)) (hB _ (by decide)) n d m B0 n1 n25 hd1 hm hI1 b1 hok0 hc) ml_6_74 im_yX0_move se_yX0_move (by decide) (by decide) rfl (hB _ (by decide)) rfl rfl dX6_goByBoth_43 (by decide) (by omega) (by omega) (hl_i (hl_r (hB _ (by decide)) (hl_i (hl_i (hl_i (hl_i hl_nil)))))) hs_nil ?_
        rintro _ _ _ ⟨r1, rfl, rfl, rfl, b2⟩ _
        refine a_sub [1, 2, 3, 4, 5, 0] rfl ?_
        refine r_6_goByBoth_46 F (by omega) (by omega) hP1 hB ?_
        refine a_callS (As := [.long (lN 0), .int (nI 0), .int (nI n), .int (nI (n - d))]) (st := [.int (nI e), .ref 110]) F (c_6_withMove (xl X) hP1 I1 _ J1 hB 0 0 n (n - d) (by omega) ⟨by decide, Nat.zero_mod _⟩ (by omega)) ml_6_77 sm_yX6_withMove (by decide) rfl dX6_goByBoth_56 (Nat.le_of_ble_eq_true rfl) (by omega) (by omega) (hl_i (hl_r (hB _ (by decide)) (hl_i (hl_i (hl_i (hl_i (hl_i hl_nil))))))) (hs_i (hs_r (hB _ (by decide)) hs_nil)) ?_
        rintro _ _ _ ⟨rfl, rfl, rfl⟩ _
        rw [Nat.zero_add, show 3 - 0 = 3 from rfl]
        refine a_sub [1, 2, 3, 4, 5, 6, 0] rfl ?_
        have hr9 := hr1 n n1 n25 hc
        obtain ⟨-, ok9, -, w9⟩ := rcb_ok hm hx hy hok0 hr9
        have q5 := gon_g m e (mvB B0 m n d) ((32 * n + (n - d)) * 1024 ^ 3) vv (tk (n - 1))
        have q6 := pw_m q5
        have q7 := gm n n25
        rw [en] at q7
        have q8 := pw_m q7
        have iv2 := gon_I (v := vv) hm hx hy hok0 hv1 hr9 (hr2 n n1 n25 hc) iv1
        have go : WA X (mC P1 O I1 (up1 A1 131 r1) J1) pl1 (k1 + 0 + 0 + 0) (k2 + 0 + 0 + 0) 69 [(0, .ref 110), (1, .int (nI d)), (2, .int (nI e)), (3, .int z5), (4, .int (nI n)), (5, .int (nI (n - d))), (6, .int (@ite Int32 (hitP B0 m n d) (Classical.propDecidable _) 1 0))] [.int (nI vv), .long (lN ((32 * n + (n - d)) * 1024 ^ 3)), .int (nI e), .ref 110] := by
          refine a_callV (b := 110) (As := [.int (nI e), .long (lN ((32 * n + (n - d)) * 1024 ^ 3)), .int (nI vv)]) (st := []) (ci := 6) F (c_6_goOnBy (xl X) hP1 I1 (up1 A1 131 r1) J1 hB m x y e ((32 * n + (n - d)) * 1024 ^ 3) vv B0 (mvB B0 m n d) (tk (n - 1)) hm hx hy hok0 he1 he6 hv1 c1 (tbS_a t1 r1) (by rw [up1_s]; exact b2) hI1 iv1 hr9 (hr2 n n1 n25 hc)) ml_6_85 im_yX6_goOnBy se_yX6_goOnBy (by decide) (by decide) rfl (hB _ (by decide)) rfl rfl dX6_goByBoth_69 (by decide) (by omega) (by omega) (hl_r (hB _ (by decide)) (hl_i (hl_i (hl_i (hl_i (hl_i (hl_i hl_nil))))))) hs_nil ?_
          rintro _ _ pl2 ⟨rfl, P2, I2, A2, J2, rfl, fx2, c2, tb2, b3⟩ _
          have fy2 := (fy.tr (frZ.bd P1 I1 A1 J1 pl1 r1)).tr fx2
          have hB1 := hB
          have hB : inB pl2 := fx2.b hB1
          have hP2 := fy2.la hP
          have hI2 : I2 130 1 = nI m := by rw [fy2.2.1 130 1 (by omega)]; exact hI
          refine r_6_goByBoth_72 F (by omega) (by omega) hP2 hB ?_
          refine a_callV (b := 130) (As := [.int (nI n), .int (nI (n - d)), .int (@ite Int32 (hitP B0 m n d) (Classical.propDecidable _) 1 0)]) (st := []) (ci := 0) F (c_0_unmove (xl X) hP2 I2 A2 J2 hB 130 rfl (hB _ (by decide)) (hB _ (by decide)) n d m B0 n1 n25 hd1 hm hI2 b3 hok0 hc) ml_6_81 im_yX0_unmove se_yX0_unmove (by decide) (by decide) rfl (hB _ (by decide)) rfl rfl dX6_goByBoth_82 (by decide) (by omega) (by omega) (hl_r (hB _ (by decide)) (hl_i (hl_i (hl_i (hl_i (hl_i (hl_i hl_nil))))))) hs_nil ?_
          rintro _ _ _ ⟨r2, rfl, rfl, rfl, b4⟩ _
          refine r_6_goByBoth_85 F (by omega) (by omega) hP2 hB ?_
          refine r_6_goByBoth_87 F (by omega) (by omega) hP2 hB ?_
          rw [nI_1]
          refine ih (n + 1) 1 P2 I2 (up1 A2 131 r2) J2 pl2 _ _ (by omega) (by omega) ⟨fun z => absurd z (by decide), fun z => absurd ⟨n, n1, by omega, hc⟩ z⟩ (fy2.tr (frZ.bd P2 I2 A2 J2 pl2 r2)) c2 ?_ (by rw [up1_s]; exact b4) ?_ ?_ ?_
          all_goals rw [show n + 1 - 1 = n by omega, en]
          · exact tbS_a tb2 r2
          · exact iv2
          · omega
          · omega
        have le : (nI d ≤ nI e) ↔ d ≤ e := nI_leI (by omega) (by omega)
        refine r_6_goByBoth_59 F (by omega) (by omega) hP1 hB (fun z => ?_) (fun z => ?_)
        · have z := le.mp z
          rw [show vv = 2 by rw [← hvv, if_neg (by omega)]] at go; exact go
        · have z := mt le.mpr z
          rw [show vv = 3 by rw [← hvv, if_pos (by omega)]] at go; exact go
  refine r_6_goByBoth_0 F (Nat.zero_le _) (Nat.zero_le _) hP hB ?_
  refine lp 25 1 0 P I A J pl 0 0 rfl (Nat.le_refl _) ⟨fun _ ⟨f, a, b, _⟩ => by omega, fun _ => rfl⟩ (frZ.rf P I A J pl) hC ?_ hb ?_ (Nat.zero_le _) (Nat.zero_le _)
  · rw [show 1 - 1 = 0 from rfl, k0]; exact ht
  · rw [show 1 - 1 = 0 from rfl, k0]; exact hiv
