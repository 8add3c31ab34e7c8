theorem Rch_L {m d g : Nat} : ∀ k n L (B : Nat → Nat) w L' (B' : Nat → Nat) w', Rch m d d g k n L B w L' B' w' → L' + k = L
  | 0, n, L, B, w, L', B', w', h => by rw [h.1]; rfl
  | k + 1, n, L, B, w, L', B', w', h => by
    obtain ⟨c, h1, h2, h3⟩ := h
    have ih := Rch_L k _ _ _ _ _ _ _ h3
    have h4 := h2.1
    unfold lfP at h4; rw [if_pos rfl] at h4
    unfold woF at ih; rw [if_pos rfl] at ih
    omega
theorem rcb_s {m d k f w : Nat} {B0 B : Nat → Nat} (h : rcb m d d B0 k B w) (hk : k < 4) (h1 : 1 ≤ f) (h2 : f ≤ 25) (hc : cmP B m f d) : rcb m d d B0 (k + 1) (mvB B m f d) (w + (32 * f + (f - d)) * 1024 ^ (3 - k)) := by
  obtain ⟨L, h⟩ := h
  have e1 : 25 - 2 * (25 - f) / 2 = f := by omega
  have e2 : dieC d d (2 * (25 - f)) = d := by unfold dieC; split <;> rfl
  have e3 : 2 * (25 - f) % 2 = 0 := by omega
  have hL := Rch_L _ _ _ _ _ _ _ _ h
  have h4 : L0F d d = 4 := by unfold L0F; rw [if_pos rfl]
  have := Rch_snoc k 0 (L0F d d) B0 0 L B w (2 * (25 - f)) h (by omega) ⟨by unfold lfP; rw [if_pos rfl]; omega, Or.inl rfl, by rw [e1, e2]; exact hc⟩
  unfold nxB nxW cdC at this
  rw [e1, e2, Nat.zero_add] at this
  exact ⟨_, this⟩
noncomputable def extF (m d : Nat) : Nat → (Nat → Nat) → Nat → Nat → TB → TB
  | 0, B, _, w, τ => recF m τ B w 8
  | n + 1, B, top, w, τ => alF (fun f => cmP B m f d) (fun f τ => extF m d n (mvB B m f d) f (w + (32 * f + (f - d)) * 1024 ^ n) τ) (fun τ => recF m τ B w (2 * (3 - n))) top τ
theorem ext_g (m d : Nat) : ∀ n (B : Nat → Nat) (top w : Nat) (τ : TB), τ.2.2.2.2 ≤ (extF m d n B top w τ).2.2.2.2
  | 0, B, top, w, τ => rec_g _ _ _ _ _
  | n + 1, B, top, w, τ => al_0 (fun f σ => ext_g m d n _ f _ σ) (fun _ => rec_g _ _ _ _ _)
theorem ext_I {m d : Nat} {B0 : Nat → Nat} (hm : m ≤ 1) (hd : 1 ≤ d ∧ d ≤ 6) (hok : okB B0) : ∀ n (B : Nat → Nat) (top w : Nat) (τ : TB), n ≤ 4 → top ≤ 25 → rcb m d d B0 (4 - n) B w → ivE m d d B0 τ → ivE m d d B0 (extF m d n B top w τ)
  | 0, B, top, w, τ, _, _, hr, h => rec_I (v := 8) hm hd hd hok hr (by omega) h
  | n + 1, B, top, w, τ, hn, ht, hr, h => al_I h (fun f σ a b c z => ext_I hm hd hok n _ f _ σ (by omega) (by omega) (by
      have := rcb_s hr (by omega) a (by omega) c
      rw [show 4 - (n + 1) + 1 = 4 - n by omega, show 3 - (4 - (n + 1)) = n by omega] at this
      exact this) z) (fun _ => rec_I (v := 2 * (3 - n)) hm hd hd hok (by rw [show 2 * (3 - n) / 2 = 4 - (n + 1) by omega]; exact hr) (by omega) h)

theorem r_6_extend_0 {X : Ctx} {d8 : Nat} (h8 : 8 ≤ d8) {mc ms k1 k2 : Nat} (F : Fx X cX6_extend RX6 10 d8 mc ms) (hk1 : k1 ≤ mc) (hk2 : k2 ≤ ms) {P O : Nat → Nat → Option Nat} (hP : laP P) {I A : Nat → Nat → Int32} {J : Nat → Nat → Int64} {pl : List Nat} (hB : inB pl) {x1 x2 x3 : Int32} {y4 : Int64}
    (e_1 : WA X (mC P O I A J) pl k1 k2 6 [(0, .ref 110), (1, .int x1), (2, .int x2), (3, .int x3), (4, .long y4), (6, .int 0), (7, .int 1)] []) :
    WA X (mC P O I A J) pl k1 k2 0 [(0, .ref 110), (1, .int x1), (2, .int x2), (3, .int x3), (4, .long y4)] [] := by
  refine a_iconst (v := 0) F dX6_extend_0 (by decide) ?_
  refine a_istore F dX6_extend_1 (by decide) rfl ?_
  refine a_iconst (v := 1) F dX6_extend_3 (by decide) ?_
  refine a_istore F dX6_extend_4 (by decide) rfl ?_
  refine a_sub [2, 3, 4, 5, 6, 1, 0] rfl ?_
  exact e_1

theorem r_6_extend_6 {X : Ctx} {d8 : Nat} (h8 : 8 ≤ d8) {mc ms k1 k2 : Nat} (F : Fx X cX6_extend RX6 10 d8 mc ms) (hk1 : k1 ≤ mc) (hk2 : k2 ≤ ms) {P O : Nat → Nat → Option Nat} (hP : laP P) {I A : Nat → Nat → Int32} {J : Nat → Nat → Int64} {pl : List Nat} (hB : inB pl) {x1 x2 x3 x6 x7 : Int32} {y4 : Int64}
    (e_1 : (x3 < x7) → WA X (mC P O I A J) pl k1 k2 95 [(0, .ref 110), (1, .int x1), (2, .int x2), (3, .int x3), (4, .long y4), (6, .int x6), (7, .int x7)] [])
    (e_2 : (¬ (x3 < x7)) → (4 ≤ x2) → WA X (mC P O I A J) pl k1 k2 95 [(0, .ref 110), (1, .int x1), (2, .int x2), (3, .int x3), (4, .long y4), (6, .int x6), (7, .int x7)] [])
    (e_3 : (¬ (x3 < x7)) → (¬ (4 ≤ x2)) → WA X (mC P O I A J) pl k1 k2 24 [(0, .ref 110), (1, .int x1), (2, .int x2), (3, .int x3), (4, .long y4), (6, .int x6), (7, .int x7)] [.int x1, .int x7, .ref 130]) :
    WA X (mC P O I A J) pl k1 k2 6 [(0, .ref 110), (1, .int x1), (2, .int x2), (3, .int x3), (4, .long y4), (6, .int x6), (7, .int x7)] [] := by
  refine a_iload F 6 dX6_extend_6 rfl ?_
  refine a_iload_n F 3 dX6_extend_8 rfl rfl ?_
  refine a_icmp_gt (tgt := 95) F dX6_extend_9 (by decide) (fun (c_1 : x3 < x7) => ?_) (fun (c_1 : ¬ (x3 < x7)) => ?_)
  · exact e_1 c_1
  · refine a_iload_n F 2 dX6_extend_12 rfl rfl ?_
    refine a_iconst (v := 4) F dX6_extend_13 (by decide) ?_
    refine a_icmp_ge (tgt := 95) F dX6_extend_14 (by decide) (fun (c_2 : 4 ≤ x2) => ?_) (fun (c_2 : ¬ (4 ≤ x2)) => ?_)
    · exact e_2 c_1 c_2
    · refine a_aload_n F 0 dX6_extend_17 rfl rfl ?_
      refine a_getr (b := 130) F fl_6_26 rfl (hB _ (by decide)) rfl ((hP 110 0 (by decide)).trans rfl) dX6_extend_18 ?_
      refine a_iload F 6 dX6_extend_21 rfl ?_
      refine a_iload_n F 1 dX6_extend_23 rfl rfl ?_
      exact e_3 c_1 c_2

theorem r_6_extend_89 {X : Ctx} {d8 : Nat} (h8 : 8 ≤ d8) {mc ms k1 k2 : Nat} (F : Fx X cX6_extend RX6 10 d8 mc ms) (hk1 : k1 ≤ mc) (hk2 : k2 ≤ ms) {P O : Nat → Nat → Option Nat} (hP : laP P) {I A : Nat → Nat → Int32} {J : Nat → Nat → Int64} {pl : List Nat} (hB : inB pl) {x1 x2 x3 x6 x7 : Int32} {y4 : Int64}
    (e_1 : WA X (mC P O I A J) pl k1 k2 6 [(0, .ref 110), (1, .int x1), (2, .int x2), (3, .int x3), (4, .long y4), (6, .int x6), (7, .int (x7 + 1))] []) :
    WA X (mC P O I A J) pl k1 k2 89 [(0, .ref 110), (1, .int x1), (2, .int x2), (3, .int x3), (4, .long y4), (6, .int x6), (7, .int x7)] [] := by
  refine a_iinc (v := x7 + 1) F 6 dX6_extend_89 rfl rfl (by decide) rfl ?_
  refine a_goto (tgt := 6) F dX6_extend_92 (by decide) ?_
  refine a_sub [1, 2, 3, 4, 5, 6, 0] rfl ?_
  exact e_1

theorem r_6_extend_95 {X : Ctx} {d8 : Nat} (h8 : 8 ≤ d8) {mc ms k1 k2 : Nat} (F : Fx X cX6_extend RX6 10 d8 mc ms) (hk1 : k1 ≤ mc) (hk2 : k2 ≤ ms) {Φ : Option Value → HS → List Nat → Prop} (E : Ex X none mc ms Φ) {P O : Nat → Nat → Option Nat} (hP : laP P) {I A : Nat → Nat → Int32} {J : Nat → Nat → Int64} {pl : List Nat} (hB : inB pl) {x1 x2 x3 x6 x7 : Int32} {y4 : Int64}
    (e_1 : (¬ x6 = 0) → Φ none (mC P O I A J) pl)
    (e_2 : (x6 = 0) → WA X (mC P O I A J) pl k1 k2 106 [(0, .ref 110), (1, .int x1), (2, .int x2), (3, .int x3), (4, .long y4), (6, .int x6), (7, .int x7)] [.int (2 * x2), .long y4, .ref 110]) :
    WA X (mC P O I A J) pl k1 k2 95 [(0, .ref 110), (1, .int x1), (2, .int x2), (3, .int x3), (4, .long y4), (6, .int x6), (7, .int x7)] [] := by
  refine a_iload F 5 dX6_extend_95 rfl ?_
  refine a_if_ne (tgt := 109) F dX6_extend_97 (by decide) (fun (c_3 : ¬ x6 = 0) => ?_) (fun (c_3 : x6 = 0) => ?_)
  · exact a_vret F E dX6_extend_109 hk1 hk2 (e_1 c_3)
  · refine a_aload_n F 0 dX6_extend_100 rfl rfl ?_
    refine a_lload F 4 dX6_extend_101 rfl ?_
    refine a_iconst (v := 2) F dX6_extend_103 (by decide) ?_
    refine a_iload_n F 2 dX6_extend_104 rfl rfl ?_
    refine a_imul F dX6_extend_105 ?_
    exact e_2 c_3

theorem r_6_extend_27 {X : Ctx} {d8 : Nat} (h8 : 8 ≤ d8) {mc ms k1 k2 : Nat} (F : Fx X cX6_extend RX6 10 d8 mc ms) (hk1 : k1 ≤ mc) (hk2 : k2 ≤ ms) {P O : Nat → Nat → Option Nat} (hP : laP P) {I A : Nat → Nat → Int32} {J : Nat → Nat → Int64} {pl : List Nat} (hB : inB pl) {x1 x2 x3 x6 x7 x5 : Int32} {y4 : Int64}
    (e_1 : (x5 = 0) → WA X (mC P O I A J) pl k1 k2 89 [(0, .ref 110), (1, .int x1), (2, .int x2), (3, .int x3), (4, .long y4), (6, .int x6), (7, .int x7)] [])
    (e_2 : (¬ (x5 = 0)) → WA X (mC P O I A J) pl k1 k2 48 [(8, .int (if (x7 - x1) < (0 : Int32) then (0 : Int32) else (x7 - x1))), (0, .ref 110), (1, .int x1), (2, .int x2), (3, .int x3), (4, .long y4), (6, .int x6), (7, .int x7)] [.int (if (x7 - x1) < (0 : Int32) then (0 : Int32) else (x7 - x1)), .int x7, .ref 130]) :
    WA X (mC P O I A J) pl k1 k2 27 [(0, .ref 110), (1, .int x1), (2, .int x2), (3, .int x3), (4, .long y4), (6, .int x6), (7, .int x7)] [.int x5] := by
  refine a_if_eq (tgt := 89) F dX6_extend_27 (by decide) (fun (c_4 : x5 = 0) => ?_) (fun (c_4 : ¬ (x5 = 0)) => ?_)
  · exact e_1 c_4
  · refine a_iload F 6 dX6_extend_30 rfl ?_
    refine a_iload_n F 1 dX6_extend_32 rfl rfl ?_
    refine a_isub F dX6_extend_33 ?_
    refine a_iconst (v := 0) F dX6_extend_34 (by decide) ?_
    refine a_mmax F mxl_6_57 (by omega) hk1 hk2 (by decide) dX6_extend_35 ?_
    refine a_istore F dX6_extend_38 (by decide) rfl ?_
    refine a_aload_n F 1 dX6_extend_40 rfl rfl ?_
    refine a_getr (b := 130) F fl_6_26 rfl (hB _ (by decide)) rfl ((hP 110 0 (by decide)).trans rfl) dX6_extend_41 ?_
    refine a_iload F 7 dX6_extend_44 rfl ?_
    refine a_iload F 0 dX6_extend_46 rfl ?_
    exact e_2 c_4

theorem r_6_extend_51 {X : Ctx} {d8 : Nat} (h8 : 8 ≤ d8) {mc ms k1 k2 : Nat} (F : Fx X cX6_extend RX6 10 d8 mc ms) (hk1 : k1 ≤ mc) (hk2 : k2 ≤ ms) {P O : Nat → Nat → Option Nat} (hP : laP P) {I A : Nat → Nat → Int32} {J : Nat → Nat → Int64} {pl : List Nat} (hB : inB pl) {x1 x2 x3 x6 x7 x8 x5 : Int32} {y4 : Int64}
    (e_1 : WA X (mC P O I A J) pl k1 k2 67 [(9, .int x5), (0, .ref 110), (1, .int x1), (2, .int x2), (3, .int x3), (4, .long y4), (6, .int x6), (7, .int x7), (8, .int x8)] [.int x8, .int x7, .int x2, .long y4, .int x7, .int (x2 + 1), .int x1, .ref 110]) :
    WA X (mC P O I A J) pl k1 k2 51 [(0, .ref 110), (1, .int x1), (2, .int x2), (3, .int x3), (4, .long y4), (6, .int x6), (7, .int x7), (8, .int x8)] [.int x5] := by
  refine a_istore F dX6_extend_51 (by decide) rfl ?_
  refine a_aload_n F 1 dX6_extend_53 rfl rfl ?_
  refine a_iload_n F 2 dX6_extend_54 rfl rfl ?_
  refine a_iload_n F 3 dX6_extend_55 rfl rfl ?_
  refine a_iconst (v := 1) F dX6_extend_56 (by decide) ?_
  refine a_iadd F dX6_extend_57 ?_
  refine a_iload F 7 dX6_extend_58 rfl ?_
  refine a_lload F 5 dX6_extend_60 rfl ?_
  refine a_iload_n F 3 dX6_extend_62 rfl rfl ?_
  refine a_iload F 7 dX6_extend_63 rfl ?_
  refine a_iload F 8 dX6_extend_65 rfl ?_
  exact e_1

theorem r_6_extend_73 {X : Ctx} {d8 : Nat} (h8 : 8 ≤ d8) {mc ms k1 k2 : Nat} (F : Fx X cX6_extend RX6 10 d8 mc ms) (hk1 : k1 ≤ mc) (hk2 : k2 ≤ ms) {P O : Nat → Nat → Option Nat} (hP : laP P) {I A : Nat → Nat → Int32} {J : Nat → Nat → Int64} {pl : List Nat} (hB : inB pl) {x1 x2 x3 x6 x7 x8 x9 : Int32} {y4 : Int64}
    (e_1 : WA X (mC P O I A J) pl k1 k2 83 [(0, .ref 110), (1, .int x1), (2, .int x2), (3, .int x3), (4, .long y4), (6, .int x6), (7, .int x7), (8, .int x8), (9, .int x9)] [.int x9, .int x8, .int x7, .ref 130]) :
    WA X (mC P O I A J) pl k1 k2 73 [(0, .ref 110), (1, .int x1), (2, .int x2), (3, .int x3), (4, .long y4), (6, .int x6), (7, .int x7), (8, .int x8), (9, .int x9)] [] := by
  refine a_aload_n F 0 dX6_extend_73 rfl rfl ?_
  refine a_getr (b := 130) F fl_6_26 rfl (hB _ (by decide)) rfl ((hP 110 0 (by decide)).trans rfl) dX6_extend_74 ?_
  refine a_iload F 6 dX6_extend_77 rfl ?_
  refine a_iload F 7 dX6_extend_79 rfl ?_
  refine a_iload F 8 dX6_extend_81 rfl ?_
  exact e_1

theorem r_6_extend_86 {X : Ctx} {d8 : Nat} (h8 : 8 ≤ d8) {mc ms k1 k2 : Nat} (F : Fx X cX6_extend RX6 10 d8 mc ms) (hk1 : k1 ≤ mc) (hk2 : k2 ≤ ms) {P O : Nat → Nat → Option Nat} (hP : laP P) {I A : Nat → Nat → Int32} {J : Nat → Nat → Int64} {pl : List Nat} (hB : inB pl) {x1 x2 x3 x6 x7 x8 x9 : Int32} {y4 : Int64}
    (e_1 : WA X (mC P O I A J) pl k1 k2 89 [(0, .ref 110), (1, .int x1), (2, .int x2), (3, .int x3), (4, .long y4), (6, .int 1), (7, .int x7)] []) :
    WA X (mC P O I A J) pl k1 k2 86 [(0, .ref 110), (1, .int x1), (2, .int x2), (3, .int x3), (4, .long y4), (6, .int x6), (7, .int x7), (8, .int x8), (9, .int x9)] [] := by
  refine a_iconst (v := 1) F dX6_extend_86 (by decide) ?_
  refine a_istore F dX6_extend_87 (by decide) rfl ?_
  refine a_sub [1, 2, 3, 4, 5, 0, 6] rfl ?_
  exact e_1

theorem r_6_extend_109 {X : Ctx} {d8 : Nat} (h8 : 8 ≤ d8) {mc ms k1 k2 : Nat} (F : Fx X cX6_extend RX6 10 d8 mc ms) (hk1 : k1 ≤ mc) (hk2 : k2 ≤ ms) {Φ : Option Value → HS → List Nat → Prop} (E : Ex X none mc ms Φ) {P O : Nat → Nat → Option Nat} (hP : laP P) {I A : Nat → Nat → Int32} {J : Nat → Nat → Int64} {pl : List Nat} (hB : inB pl) {x1 x2 x3 x6 x7 : Int32} {y4 : Int64}
    (e_1 : Φ none (mC P O I A J) pl) :
    WA X (mC P O I A J) pl k1 k2 109 [(0, .ref 110), (1, .int x1), (2, .int x2), (3, .int x3), (4, .long y4), (6, .int x6), (7, .int x7)] [] := by
  exact a_vret F E dX6_extend_109 hk1 hk2 (e_1)

set_option maxRecDepth 100000 in
theorem c_6_extend (l : Launch) {O : Nat → Nat → Option Nat} (m d : Nat) (B0 : Nat → Nat) (hm : m ≤ 1) (hd9 : 1 ≤ d ∧ d ≤ 6) (hok0 : okB B0) : ∀ n, n ≤ 4 → ∀ (P : Nat → Nat → Option Nat) (hP : laP P) (I A : Nat → Nat → Int32) (J : Nat → Nat → Int64) (pl : List Nat) (hB : inB pl) (B : Nat → Nat) (top w : Nat) (τ : TB), top ≤ 25 → clC P O pl → tbS P I A J pl m τ → bdR (A 131) 0 B → I 130 1 = nI m → ivE m d d B0 τ → rcb m d d B0 (4 - n) B w → Con l (n + 8) yX6_extend cX6_extend 10 none [.ref 110, .int (nI d), .int (nI (4 - n)), .int (nI top), .long (lN w)] (mC P O I A J) pl (2 * ((extF m d n B top w τ).2.2.2.2 - τ.2.2.2.2)) (576 * (2 ^ (extF m d n B top w τ).2.2.2.2 - 2 ^ τ.2.2.2.2)) (gsQ P O I A J pl m B (extF m d n B top w τ)) := by
  intro n
  induction n with
  | zero =>
    intro _ P hP I A J pl hB B top w τ htop hC ht hb hI hiv hr
    refine Con.of (by decide) (Nat.le_of_ble_eq_true rfl) (fun X hX9 hn9 F E => ?_)
    obtain ⟨-, okb, wok, w40⟩ := rcb_ok hm hd9 hd9 hok0 hr
    have rcd : ∀ (x7 : Int32) (P1 : Nat → Nat → Option Nat) (I1 A1 : Nat → Nat → Int32) (J1 : Nat → Nat → Int64) (pl1 : List Nat) (k1 k2 : Nat), extF m d 0 B top w τ = recF m τ B w (2 * (4 - 0)) → frZ P I A J pl P1 I1 A1 J1 pl1 → clC P1 O pl1 → tbS P1 I1 A1 J1 pl1 m τ → bdR (A1 131) 0 B → k1 ≤ 0 → k2 ≤ 0 → WA X (mC P1 O I1 A1 J1) pl1 k1 k2 106 [(0, .ref 110), (1, .int (nI d)), (2, .int (nI (4 - 0))), (3, .int (nI top)), (4, .long (lN w)), (6, .int 0), (7, .int x7)] [.int (2 * nI (4 - 0)), .long (lN w), .ref 110] := by
      intro x7 P1 I1 A1 J1 pl1 k1 k2 eG fy c1 t1 b1 h1 h2
      have hB : inB pl1 := fy.b hB
      obtain ⟨S1, iv1⟩ := hiv
      obtain ⟨r1, r2, r3⟩ := rec_S (v := (2 * (4 - 0))) hm hd9 hd9 hok0 iv1 (by rw [show (2 * (4 - 0)) / 2 = 4 - 0 by omega]; exact hr) (by omega)
      have q5 := rec_g m τ B w (2 * (4 - 0))
      have q6 := pw_m q5
      rw [eG] at F E
      rw [show (2 : Int32) * nI (4 - 0) = nI (2 * (4 - 0)) from (Int32.ofNat_mul 2 (4 - 0)).symm]
      refine a_callV (b := 110) (As := [.long (lN w), .int (nI (2 * (4 - 0)))]) (st := []) (ci := 6) F (c_6_record (xl X) (fy.la hP) I1 A1 J1 hB m w (2 * (4 - 0)) B τ hm c1 t1 b1 (okB_dg okb) w40 (by omega) (by have := iv1.1; omega) (by omega)) ml_6_49 im_yX6_record se_yX6_record (by omega) (by decide) rfl (hB _ (by decide)) rfl rfl dX6_extend_106 (by decide) (by omega) (by omega) (hl_r (hB _ (by decide)) (hl_i (hl_i (hl_i (hl_l (hl_i (hl_i hl_nil))))))) hs_nil ?_
      rintro _ _ pl2 ⟨rfl, P2, I2, A2, J2, rfl, fx2, c2, tb2⟩ _
      refine r_6_extend_109 (by omega) F (by omega) (by omega) E ((fy.tr fx2.y).la hP) (fx2.b hB) ⟨rfl, P2, I2, A2, J2, rfl, fy.tr fx2.y, c2, tb2, ?_⟩
      rw [fx2.2.2.1 131 (by omega)]; exact b1
    have le4 : (4 : Int32) ≤ nI (4 - 0) := by decide
    have go := fun x7 => r_6_extend_95 (x7 := x7) (by omega) F (Nat.zero_le _) (Nat.zero_le _) E hP hB (fun z => absurd rfl z) (fun _ => rcd x7 P I A J pl 0 0 rfl (frZ.rf P I A J pl) hC ht hb (Nat.le_refl _) (Nat.le_refl _))
    refine r_6_extend_0 (by omega) F (Nat.zero_le _) (Nat.zero_le _) hP hB ?_
    exact r_6_extend_6 (by omega) F (Nat.zero_le _) (Nat.zero_le _) hP hB (fun _ => go 1) (fun _ _ => go 1) (fun _ z => absurd le4 z)
  | succ n ihn =>
    intro hn4 P hP I A J pl hB B top w τ htop hC ht hb hI hiv hr
    refine Con.of (by decide) (Nat.le_of_ble_eq_true rfl) (fun X hX9 hn9 F E => ?_)
    obtain ⟨-, okb, wok, w40⟩ := rcb_ok hm hd9 hd9 hok0 hr
    have hd1 := hd9.1
    have hd6 := hd9.2
    have rcd : ∀ (x7 : Int32) (P1 : Nat → Nat → Option Nat) (I1 A1 : Nat → Nat → Int32) (J1 : Nat → Nat → Int64) (pl1 : List Nat) (k1 k2 : Nat), extF m d (n + 1) B top w τ = recF m τ B w (2 * (4 - (n + 1))) → frZ P I A J pl P1 I1 A1 J1 pl1 → clC P1 O pl1 → tbS P1 I1 A1 J1 pl1 m τ → bdR (A1 131) 0 B → k1 ≤ 0 → k2 ≤ 0 → WA X (mC P1 O I1 A1 J1) pl1 k1 k2 106 [(0, .ref 110), (1, .int (nI d)), (2, .int (nI (4 - (n + 1)))), (3, .int (nI top)), (4, .long (lN w)), (6, .int 0), (7, .int x7)] [.int (2 * nI (4 - (n + 1))), .long (lN w), .ref 110] := by
      intro x7 P1 I1 A1 J1 pl1 k1 k2 eG fy c1 t1 b1 h1 h2
      have hB : inB pl1 := fy.b hB
      obtain ⟨S1, iv1⟩ := hiv
      obtain ⟨r1, r2, r3⟩ := rec_S (v := (2 * (4 - (n + 1)))) hm hd9 hd9 hok0 iv1 (by rw [show (2 * (4 - (n + 1))) / 2 = 4 - (n + 1) by omega]; exact hr) (by omega)
      have q5 := rec_g m τ B w (2 * (4 - (n + 1)))
      have q6 := pw_m q5
      rw [eG] at F E
      rw [show (2 : Int32) * nI (4 - (n + 1)) = nI (2 * (4 - (n + 1))) from (Int32.ofNat_mul 2 (4 - (n + 1))).symm]
      refine a_callV (b := 110) (As := [.long (lN w), .int (nI (2 * (4 - (n + 1))))]) (st := []) (ci := 6) F (c_6_record (xl X) (fy.la hP) I1 A1 J1 hB m w (2 * (4 - (n + 1))) B τ hm c1 t1 b1 (okB_dg okb) w40 (by omega) (by have := iv1.1; omega) (by omega)) ml_6_49 im_yX6_record se_yX6_record (by omega) (by decide) rfl (hB _ (by decide)) rfl rfl dX6_extend_106 (by decide) (by omega) (by omega) (hl_r (hB _ (by decide)) (hl_i (hl_i (hl_i (hl_l (hl_i (hl_i hl_nil))))))) hs_nil ?_
      rintro _ _ pl2 ⟨rfl, P2, I2, A2, J2, rfl, fx2, c2, tb2⟩ _
      refine r_6_extend_109 (by omega) F (by omega) (by omega) E ((fy.tr fx2.y).la hP) (fx2.b hB) ⟨rfl, P2, I2, A2, J2, rfl, fy.tr fx2.y, c2, tb2, ?_⟩
      rw [fx2.2.2.1 131 (by omega)]; exact b1
    have nge : ¬ (4 : Int32) ≤ nI (4 - (n + 1)) := fun z => by have := (nI_gen 4 (by omega) (by omega)).mp z; omega
    have gm := fun (k : Nat) (hk : k ≤ top) => al_g (ok := (fun f => cmP B m f d)) (st := (fun f τ => extF m d n (mvB B m f d) f (w + (32 * f + (f - d)) * 1024 ^ n) τ)) (el := (fun τ => recF m τ B w (2 * (3 - n)))) (τ := τ) (fun f σ => ext_g m d n _ f _ σ) (fun _ => rec_g _ _ _ _ _) hk
    have g0 := fun (k : Nat) => lp_g (ok := (fun f => cmP B m f d)) (st := (fun f τ => extF m d n (mvB B m f d) f (w + (32 * f + (f - d)) * 1024 ^ n) τ)) (τ := τ) (fun f σ => ext_g m d n _ f _ σ) (a := 0) k (Nat.zero_le _)
    obtain ⟨tk, htk⟩ : ∃ tk : Nat → TB, (fun k => lpF (fun f => cmP B m f d) (fun f τ => extF m d n (mvB B m f d) f (w + (32 * f + (f - d)) * 1024 ^ n) τ) k τ) = tk := ⟨_, rfl⟩
    have ek : ∀ k, lpF (fun f => cmP B m f d) (fun f τ => extF m d n (mvB B m f d) f (w + (32 * f + (f - d)) * 1024 ^ n) τ) k τ = tk k := fun k => by rw [← htk]
    have ky : ∀ k, cmP B m (k + 1) d → tk (k + 1) = extF m d n (mvB B m (k + 1) d) (k + 1) (w + (32 * (k + 1) + (k + 1 - d)) * 1024 ^ n) (tk k) := fun k h => by rw [← ek, ← ek]; exact lp_y h
    have kn : ∀ k, ¬ cmP B m (k + 1) d → tk (k + 1) = tk k := fun k h => by rw [← ek, ← ek]; exact lp_n h
    have k0 : tk 0 = τ := by rw [← ek]; rfl
    have gm : ∀ k, k ≤ top → (tk k).2.2.2.2 ≤ (extF m d (n + 1) B top w τ).2.2.2.2 := fun k hk => by rw [← ek]; exact gm k hk
    have g0 : ∀ k, τ.2.2.2.2 ≤ (tk k).2.2.2.2 := fun k => by rw [← ek]; exact g0 k
    have eG1 : (∃ f, 1 ≤ f ∧ f ≤ top ∧ cmP B m f d) → extF m d (n + 1) B top w τ = tk top := fun h => by rw [← ek]; show alF _ _ _ _ _ = _; unfold alF; rw [if_pos h]
    have eG0 : (¬ ∃ f, 1 ≤ f ∧ f ≤ top ∧ cmP B m f d) → extF m d (n + 1) B top w τ = recF m τ B w (2 * (4 - (n + 1))) := fun h => by show alF _ _ _ _ _ = _; unfold alF; rw [if_neg h, show 4 - (n + 1) = 3 - n by omega]
    clear htk
    have lp : ∀ f k (z5 : Int32) (P1 : Nat → Nat → Option Nat) (I1 A1 : Nat → Nat → Int32) (J1 : Nat → Nat → Int64) (pl1 : List Nat) (k1 k2 : Nat), k + f = top + 1 → 1 ≤ k → (z5 = 0 ↔ ¬ ∃ f, 1 ≤ f ∧ f < k ∧ cmP B m f d) → frZ P I A J pl P1 I1 A1 J1 pl1 → clC P1 O pl1 → tbS P1 I1 A1 J1 pl1 m (tk (k - 1)) → bdR (A1 131) 0 B → ivE m d d B0 (tk (k - 1)) → k1 ≤ 2 * ((tk (k - 1)).2.2.2.2 - τ.2.2.2.2) → k2 ≤ 576 * (2 ^ (tk (k - 1)).2.2.2.2 - 2 ^ τ.2.2.2.2) → WA X (mC P1 O I1 A1 J1) pl1 k1 k2 6 [(0, .ref 110), (1, .int (nI d)), (2, .int (nI (4 - (n + 1)))), (3, .int (nI top)), (4, .long (lN w)), (6, .int z5), (7, .int (nI k))] [] := by
      intro f
      induction f with
      | zero =>
        intro k z5 P1 I1 A1 J1 pl1 k1 k2 hk n1 hz fy c1 t1 b1 iv1 h1 h2
        obtain rfl : k = top + 1 := by omega
        rw [show top + 1 - 1 = top by omega] at t1 iv1 h1 h2
        have hB : inB pl1 := fy.b hB
        have q1 := gm top (Nat.le_refl _)
        have q2 := g0 top
        have q3 := pw_m q1
        have q4 := pw_m q2
        have lt : nI top < nI (top + 1) := (nI_ltI (by omega) (by omega)).mpr (by omega)
        refine r_6_extend_6 (by omega) F (by omega) (by omega) (fy.la hP) hB (fun _ => ?_) (fun z => absurd lt z) (fun z => absurd lt z)
        refine r_6_extend_95 (by omega) F (by omega) (by omega) E (fy.la hP) hB (fun z => ?_) (fun z => ?_)
        · have any : ∃ f, 1 ≤ f ∧ f ≤ top ∧ cmP B m f d := by
            obtain ⟨f, a, b, c⟩ := Classical.not_not.mp (mt hz.mpr z)
            exact ⟨f, a, by omega, c⟩
          rw [eG1 any]
          exact ⟨rfl, P1, I1, A1, J1, rfl, fy, c1, t1, b1⟩
        · have nany : ¬ ∃ f, 1 ≤ f ∧ f ≤ top ∧ cmP B m f d := fun ⟨f, a, b, c⟩ => hz.mp z ⟨f, a, by omega, c⟩
          have e25 : tk top = τ := by rw [← ek]; exact lp_0 top (fun f a b c => nany ⟨f, a, b, c⟩)
          rw [e25] at t1 h1 h2
          rw [z]
          exact rcd _ P1 I1 A1 J1 pl1 k1 k2 (eG0 nany) fy c1 t1 b1 (by omega) (by omega)
      | succ f ih =>
        intro k z5 P1 I1 A1 J1 pl1 k1 k2 hk n1 hz fy c1 t1 b1 iv1 h1 h2
        have ktop : k ≤ top := by omega
        have n25 : k ≤ 25 := by omega
        have hB : inB pl1 := fy.b hB
        have hP1 := fy.la hP
        have hI1 : I1 130 1 = nI m := by rw [fy.2.1 130 1 (by omega)]; exact hI
        have nlt : ¬ nI top < nI k := fun z => by have := (nI_ltI (by omega) (by omega)).mp z; omega
        have q1 := gm (k - 1) (by omega)
        have q2 := g0 (k - 1)
        have q3 := pw_m q1
        have q4 := pw_m q2
        refine r_6_extend_6 (by omega) F (by omega) (by omega) hP1 hB (fun z => absurd z nlt) (fun _ z => absurd z nge) (fun _ _ => ?_)
        refine a_callV (b := 130) (As := [.int (nI k), .int (nI d)]) (st := []) (ci := 0) F (c_0_canMove (xl X) hP1 I1 A1 J1 hB 130 rfl (hB _ (by decide)) (hB _ (by decide)) k d m B n25 hd1 hd6 hm hI1 b1) ml_6_70 im_yX0_canMove se_yX0_canMove (by omega) (by decide) rfl (hB _ (by decide)) rfl rfl dX6_extend_24 (by decide) (by omega) (by omega) (hl_r (hB _ (by decide)) (hl_i (hl_i (hl_i (hl_l (hl_i (hl_i hl_nil))))))) hs_nil ?_
        rintro _ _ _ ⟨rfl, rfl, rfl⟩ _
        refine r_6_extend_27 (by omega) F (by omega) (by omega) hP1 hB (fun z => ?_) (fun z => ?_)
        · have nc : ¬ cmP B m k d := fun h => by rw [if_pos ⟨n1, h⟩] at z; exact absurd z (by decide)
          have en := kn (k - 1) (by rw [show k - 1 + 1 = k by omega]; exact nc)
          rw [show k - 1 + 1 = k by omega] at en
          refine r_6_extend_89 (by omega) F (by omega) (by omega) hP1 hB ?_
          rw [nI_1]
          refine ih (k + 1) z5 P1 I1 A1 J1 pl1 _ _ (by omega) (by omega) (hz.trans (not_congr ⟨fun ⟨f, a, b, c⟩ => ⟨f, a, by omega, c⟩, fun ⟨f, a, b, c⟩ => ⟨f, a, ?_, c⟩⟩)) fy c1 ?_ b1 ?_ ?_ ?_
          · by_cases y9 : f = k
            · subst y9; exact absurd c nc
            · omega
          all_goals rw [show k + 1 - 1 = k by omega, en]
          · exact t1
          · exact iv1
          · exact h1
          · exact h2
        · have hc : cmP B m k d := Classical.byContradiction (fun h => z (if_neg (fun y => h y.2)))
          have en := ky (k - 1) (by rw [show k - 1 + 1 = k by omega]; exact hc)
          rw [show k - 1 + 1 = k by omega] at en
          rw [to_n n25 hd6]
          refine a_callV (b := 130) (As := [.int (nI k), .int (nI (k - d))]) (st := []) (ci := 0) F (c_0_move (xl X) hP1 I1 A1 J1 hB 130 rfl (hB _ (by decide)) (hB _ (by decide)) k d m B n1 n25 hd1 hm hI1 b1 okb hc) ml_6_74 im_yX0_move se_yX0_move (by omega) (by decide) rfl (hB _ (by decide)) rfl rfl dX6_extend_48 (by decide) (by omega) (by omega) (hl_i (hl_r (hB _ (by decide)) (hl_i (hl_i (hl_i (hl_l (hl_i (hl_i hl_nil)))))))) hs_nil ?_
          rintro _ _ _ ⟨r1, rfl, rfl, rfl, b2⟩ _
          refine a_sub [1, 2, 3, 4, 5, 6, 7, 0] rfl ?_
          refine r_6_extend_51 (by omega) F (by omega) (by omega) hP1 hB ?_
          refine a_callS (As := [.long (lN w), .int (nI (4 - (n + 1))), .int (nI k), .int (nI (k - d))]) (st := [.int (nI k), .int (nI (4 - (n + 1)) + 1), .int (nI d), .ref 110]) F (c_6_withMove (xl X) hP1 I1 _ J1 hB w (4 - (n + 1)) k (k - d) (by omega) wok (by omega)) ml_6_77 sm_yX6_withMove (by omega) rfl dX6_extend_67 (Nat.le_of_ble_eq_true rfl) (by omega) (by omega) (hl_i (hl_r (hB _ (by decide)) (hl_i (hl_i (hl_i (hl_l (hl_i (hl_i (hl_i hl_nil))))))))) (hs_i (hs_i (hs_i (hs_r (hB _ (by decide)) hs_nil)))) ?_
          rintro _ _ _ ⟨rfl, rfl, rfl⟩ _
          rw [show 3 - (4 - (n + 1)) = n by omega, nI_1, show 4 - (n + 1) + 1 = 4 - n by omega]
          refine a_sub [1, 2, 3, 4, 5, 6, 7, 8, 0] rfl ?_
          have hr9 := rcb_s hr (by omega) n1 n25 hc
          rw [show 4 - (n + 1) + 1 = 4 - n by omega, show 3 - (4 - (n + 1)) = n by omega] at hr9
          have q5 := ext_g m d n (mvB B m k d) k (w + (32 * k + (k - d)) * 1024 ^ n) (tk (k - 1))
          have q6 := pw_m q5
          have q7 := gm k ktop
          rw [en] at q7
          have q8 := pw_m q7
          have iv2 := ext_I hm hd9 hok0 n (mvB B m k d) k (w + (32 * k + (k - d)) * 1024 ^ n) (tk (k - 1)) (by omega) n25 hr9 iv1
          refine a_callV (b := 110) (As := [.int (nI d), .int (nI (4 - n)), .int (nI k), .long (lN (w + (32 * k + (k - d)) * 1024 ^ n))]) (st := []) (ci := 6) F (hX9.symm ▸ ihn (by omega) P1 hP1 I1 (up1 A1 131 r1) J1 pl1 hB (mvB B m k d) k (w + (32 * k + (k - d)) * 1024 ^ n) (tk (k - 1)) n25 c1 (tbS_a t1 r1) (by rw [up1_s]; exact b2) hI1 iv1 hr9) ml_6_53 im_yX6_extend se_yX6_extend (by omega) (by decide) rfl (hB _ (by decide)) rfl rfl dX6_extend_70 (by decide) (by omega) (by omega) (hl_r (hB _ (by decide)) (hl_i (hl_i (hl_i (hl_l (hl_i (hl_i (hl_i (hl_i hl_nil))))))))) hs_nil ?_
          rintro _ _ pl2 ⟨rfl, P2, I2, A2, J2, rfl, fx2, c2, tb2, b3⟩ _
          have fy2 := (fy.tr (frZ.bd P1 I1 A1 J1 pl1 r1)).tr fx2
          have hB1 := hB
          have hB : inB pl2 := fx2.b hB1
          have hP2 := fy2.la hP
          have hI2 : I2 130 1 = nI m := by rw [fy2.2.1 130 1 (by omega)]; exact hI
          refine r_6_extend_73 (by omega) F (by omega) (by omega) hP2 hB ?_
          refine a_callV (b := 130) (As := [.int (nI k), .int (nI (k - d)), .int (@ite Int32 (hitP B m k d) (Classical.propDecidable _) 1 0)]) (st := []) (ci := 0) F (c_0_unmove (xl X) hP2 I2 A2 J2 hB 130 rfl (hB _ (by decide)) (hB _ (by decide)) k d m B n1 n25 hd1 hm hI2 b3 okb hc) ml_6_81 im_yX0_unmove se_yX0_unmove (by omega) (by decide) rfl (hB _ (by decide)) rfl rfl dX6_extend_83 (by decide) (by omega) (by omega) (hl_r (hB _ (by decide)) (hl_i (hl_i (hl_i (hl_l (hl_i (hl_i (hl_i (hl_i hl_nil))))))))) hs_nil ?_
          rintro _ _ _ ⟨r2, rfl, rfl, rfl, b4⟩ _
          refine r_6_extend_86 (by omega) F (by omega) (by omega) hP2 hB ?_
          refine r_6_extend_89 (by omega) F (by omega) (by omega) hP2 hB ?_
          rw [nI_1]
          refine ih (k + 1) 1 P2 I2 (up1 A2 131 r2) J2 pl2 _ _ (by omega) (by omega) ⟨fun z => absurd z (by decide), fun z => absurd ⟨k, n1, by omega, hc⟩ z⟩ (fy2.tr (frZ.bd P2 I2 A2 J2 pl2 r2)) c2 ?_ (by rw [up1_s]; exact b4) ?_ ?_ ?_
          all_goals rw [show k + 1 - 1 = k by omega, en]
          · exact tbS_a tb2 r2
          · exact iv2
          · omega
          · omega
    refine r_6_extend_0 (by omega) F (Nat.zero_le _) (Nat.zero_le _) hP hB ?_
    refine lp top 1 0 P I A J pl 0 0 (by omega) (Nat.le_refl _) ⟨fun _ ⟨f, a, b, _⟩ => by omega, fun _ => rfl⟩ (frZ.rf P I A J pl) hC ?_ hb ?_ (Nat.zero_le _) (Nat.zero_le _)
    · rw [show 1 - 1 = 0 from rfl, k0]; exact ht
    · rw [show 1 - 1 = 0 from rfl, k0]; exact hiv
