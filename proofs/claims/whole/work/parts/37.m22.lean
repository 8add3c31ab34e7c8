def stkW (A : Nat → Nat → Int32) (n L : Nat) (B : Nat → Nat) (w c : Nat) : Prop := A 5 n = nI (25 - c / 2) ∧ A 6 n = nI (c % 2) ∧ A 7 n = nI L ∧ bdR (A 3) (52 * n) B ∧ (∀ j, j < n → A 4 j = nI (wdg w j))
def FrO (A A' : Nat → Nat → Int32) : Prop := ∀ q, q ≠ 3 → q ≠ 4 → q ≠ 5 → q ≠ 6 → q ≠ 7 → q ≠ 13 → q ≠ 14 → q ≠ 15 → A' q = A q
theorem FrO.rf (A : Nat → Nat → Int32) : FrO A A := fun _ _ _ _ _ _ _ _ _ => rfl
theorem FrO.tr {A A' A'' : Nat → Nat → Int32} (h : FrO A A') (h' : FrO A' A'') : FrO A A'' := fun q a b c d e f g i => (h' q a b c d e f g i).trans (h q a b c d e f g i)
def FrS (n : Nat) (A A' : Nat → Nat → Int32) : Prop := (∀ j, j < n → A' 5 j = A 5 j ∧ A' 6 j = A 6 j ∧ A' 4 j = A 4 j) ∧ (∀ j, j ≤ n → A' 7 j = A 7 j) ∧ (∀ k, k < 52 * (n + 1) → A' 3 k = A 3 k) ∧ FrO A A'
theorem FrS.rf (n : Nat) (A : Nat → Nat → Int32) : FrS n A A := ⟨fun _ _ => ⟨rfl, rfl, rfl⟩, fun _ _ => rfl, fun _ _ => rfl, FrO.rf A⟩
theorem FrS.tr {n : Nat} {A A' A'' : Nat → Nat → Int32} (h : FrS n A A') (h' : FrS n A' A'') : FrS n A A'' :=
  ⟨fun j hj => ⟨(h'.1 j hj).1.trans (h.1 j hj).1, (h'.1 j hj).2.1.trans (h.1 j hj).2.1, (h'.1 j hj).2.2.trans (h.1 j hj).2.2⟩, fun j hj => (h'.2.1 j hj).trans (h.2.1 j hj), fun k hk => (h'.2.2.1 k hk).trans (h.2.2.1 k hk), h.2.2.2.tr h'.2.2.2⟩
theorem FrS.lo {n : Nat} {A A' : Nat → Nat → Int32} (h : FrS (n + 1) A A') : FrS n A A' := ⟨fun j hj => h.1 j (by omega), fun j hj => h.2.1 j (by omega), fun k hk => h.2.2.1 k (by omega), h.2.2.2⟩
theorem stk_fr {n L w c : Nat} {B : Nat → Nat} {A A' : Nat → Nat → Int32} (h : stkW A n L B w c) (f : FrS (n + 1) A A') : stkW A' n L B w c :=
  ⟨(f.1 n (by omega)).1.trans h.1, (f.1 n (by omega)).2.1.trans h.2.1, (f.2.1 n (by omega)).trans h.2.2.1, fun k hk => by rw [f.2.2.1 _ (by omega)]; exact h.2.2.2.1 k hk, fun j hj => (f.1 j (by omega)).2.2.trans (h.2.2.2.2 j hj)⟩
def rchN (m x y g L0 : Nat) (B0 : Nat → Nat) : NS := fun d B w => ∃ L, Rch m x y g d 0 L0 B0 0 L B w
def invW (m kf len : Nat) (R V : NS) (best : Nat) (I A : Nat → Nat → Int32) : Prop := (∀ d B w, V d B w → R d B w ∧ d ≤ best) ∧ (∃ B w, V best B w) ∧ (kf = 1 → tabA I A len m (V len))
theorem tabA_cg {I I' A A' : Nat → Nat → Int32} {len m : Nat} {S : (Nat → Nat) → Nat → Prop} (h : tabA I A len m S) (e : I' 0 16 = I 0 16) (e1 : A' 13 = A 13) (e2 : A' 14 = A 14) (e3 : A' 15 = A 15) : tabA I' A' len m S := by
  obtain ⟨cnt, o, T, W, h1, h2, h3⟩ := h
  exact ⟨cnt, o, T, W, e.trans h1, by rw [e1, e2, e3]; exact h2, h3⟩
def L0F (x y : Nat) : Nat := if x = y then 4 else 3
def limF (kf len : Nat) : Nat := if kf = 1 then len else 8
def walkQ (I A : Nat → Nat → Int32) (J : Nat → Nat → Int64) (m x y g kf len : Nat) (B0 : Nat → Nat) : Option Value → HS → List Nat → Prop := fun r σ' pl' => ∃ I' A' best, r = some (.int (nI best)) ∧ σ' = mS I' A' J ∧ pl' = plM ∧ FrI I I' ∧ FrO A A' ∧ (∀ k, k < 52 → A' 3 k = A 3 k) ∧ (kf = 0 → I' 0 16 = I 0 16) ∧ best ≤ 4 ∧ (∀ d B w, (d = 0 ∨ d ≤ limF kf len) → rchN m x y g (L0F x y) B0 d B w → d ≤ best) ∧ (∃ B w, rchN m x y g (L0F x y) B0 best B w) ∧ (kf = 1 → tabA I' A' len m (rchN m x y g (L0F x y) B0 len))

theorem r_12_walk_0 {X : Ctx} (F : Fx X cX12_walk RX12 8 4 0 0) {I A : Nat → Nat → Int32} {J : Nat → Nat → Int64} {x1 : Int32}
    (o_1 : vp_in 0 9)
    (o_2 : vp_in 0 9)
    (o_3 : vp_in 0 9)
    (e_4 : WA X (mS I (up1 (up1 (up1 A 5 (upd (A 5) 0 25)) 6 (upd (A 6) 0 0)) 7 (upd (A 7) 0 (if (I 0 9) = (I 0 10) then 4 else 3))) J) plM 0 0 41 [(0, .ref 0), (1, .int x1), (2, .int 0), (3, .int 0)] []) :
    WA X (mS I A J) plM 0 0 0 [(0, .ref 0), (1, .int x1)] [] := by
  refine a_iconst (v := 0) F dX12_walk_0 (by decide) ?_
  refine a_istore_n F dX12_walk_1 rfl (by decide) rfl ?_
  refine a_iconst (v := 0) F dX12_walk_2 (by decide) ?_
  refine a_istore_n F dX12_walk_3 rfl (by decide) rfl ?_
  refine a_aload_n F 2 dX12_walk_4 rfl rfl ?_
  refine a_getr (b := 5) F fl_12_23 rfl (by decide) rfl rfl dX12_walk_5 ?_
  refine a_iconst (v := 0) F dX12_walk_8 (by decide) ?_
  refine a_bipush (v := 25) F dX12_walk_9 (by decide) ?_
  refine a_iast F (by decide) rfl (o_1) dX12_walk_11 ?_
  refine a_aload_n F 2 dX12_walk_12 rfl rfl ?_
  refine a_getr (b := 6) F fl_12_26 rfl (by decide) rfl rfl dX12_walk_13 ?_
  refine a_iconst (v := 0) F dX12_walk_16 (by decide) ?_
  refine a_iconst (v := 0) F dX12_walk_17 (by decide) ?_
  refine a_iast F (by decide) rfl (o_2) dX12_walk_18 ?_
  refine a_aload_n F 2 dX12_walk_19 rfl rfl ?_
  refine a_getr (b := 7) F fl_12_29 rfl (by decide) rfl rfl dX12_walk_20 ?_
  refine a_iconst (v := 0) F dX12_walk_23 (by decide) ?_
  refine a_aload_n F 2 dX12_walk_24 rfl rfl ?_
  refine a_geti F fl_12_179 rfl (by decide) rfl dX12_walk_25 ?_
  refine a_aload_n F 2 dX12_walk_28 rfl rfl ?_
  refine a_geti F fl_12_182 rfl (by decide) rfl dX12_walk_29 ?_
  suffices k : ∀ z9 : Int32, z9 = (if (I 0 9) = (I 0 10) then 4 else 3) → WA X (mS I (up1 (up1 A 5 (upd (A 5) 0 25)) 6 (upd (A 6) 0 0)) J) plM 0 0 40 [(3, .int 0), (2, .int 0), (0, .ref 0), (1, .int x1)] [.int z9, .int 0, .ref 7] by
    refine a_icmp_ne (tgt := 39) F dX12_walk_32 (by decide) (fun (c_1 : ¬ (I 0 9) = (I 0 10)) => ?_) (fun (c_1 : (I 0 9) = (I 0 10)) => ?_)
    · refine a_iconst (v := 3) F dX12_walk_39 (by decide) ?_
      exact k _ (by rw [if_neg c_1] <;> rfl)
    · refine a_iconst (v := 4) F dX12_walk_35 (by decide) ?_
      refine a_goto (tgt := 40) F dX12_walk_36 (by decide) ?_
      exact k _ (by rw [if_pos c_1] <;> rfl)
  rintro _ rfl
  refine a_iast F (by decide) rfl (o_3) dX12_walk_40 ?_
  refine a_sub [2, 3, 1, 0] rfl ?_
  exact e_4

theorem r_12_walk_41 {X : Ctx} (F : Fx X cX12_walk RX12 8 4 0 0) {Φ : Option Value → HS → List Nat → Prop} (E : Ex X (some .int) 0 0 Φ) {I A : Nat → Nat → Int32} {J : Nat → Nat → Int64} {x1 x2 x3 : Int32}
    (e_1 : (x3 < 0) → Φ (some (.int x2)) (mS I A J) plM)
    (e_2 : (¬ (x3 < 0)) → (x1 = 0) → WA X (mS I A J) plM 0 0 71 [(0, .ref 0), (1, .int x1), (2, .int x2), (3, .int x3), (4, .int 0)] [])
    (e_3 : (¬ (x3 < 0)) → (¬ (x1 = 0)) → (¬ x3 = (I 0 11)) → WA X (mS I A J) plM 0 0 71 [(0, .ref 0), (1, .int x1), (2, .int x2), (3, .int x3), (4, .int 0)] [])
    (e_4 : (¬ (x3 < 0)) → (¬ (x1 = 0)) → (x3 = (I 0 11)) → WA X (mS I A J) plM 0 0 59 [(0, .ref 0), (1, .int x1), (2, .int x2), (3, .int x3)] [.int x3, .ref 0]) :
    WA X (mS I A J) plM 0 0 41 [(0, .ref 0), (1, .int x1), (2, .int x2), (3, .int x3)] [] := by
  refine a_iload_n F 3 dX12_walk_41 rfl rfl ?_
  refine a_if_lt (tgt := 302) F dX12_walk_42 (by decide) (fun (c_2 : x3 < 0) => ?_) (fun (c_2 : ¬ (x3 < 0)) => ?_)
  · refine a_iload_n F 2 dX12_walk_302 rfl rfl ?_
    exact a_iret F E dX12_walk_303 (Nat.le_refl 0) (Nat.le_refl 0) (e_1 c_2)
  · refine a_iload_n F 1 dX12_walk_45 rfl rfl ?_
    refine a_if_eq (tgt := 68) F dX12_walk_46 (by decide) (fun (c_3 : x1 = 0) => ?_) (fun (c_3 : ¬ (x1 = 0)) => ?_)
    · refine a_iconst (v := 0) F dX12_walk_68 (by decide) ?_
      refine a_istore F dX12_walk_69 (by decide) rfl ?_
      refine a_sub [1, 2, 3, 4, 0] rfl ?_
      exact e_2 c_2 c_3
    · refine a_iload_n F 3 dX12_walk_49 rfl rfl ?_
      refine a_aload_n F 0 dX12_walk_50 rfl rfl ?_
      refine a_geti F fl_12_185 rfl (by decide) rfl dX12_walk_51 ?_
      refine a_icmp_ne (tgt := 68) F dX12_walk_54 (by decide) (fun (c_4 : ¬ x3 = (I 0 11)) => ?_) (fun (c_4 : x3 = (I 0 11)) => ?_)
      · refine a_iconst (v := 0) F dX12_walk_68 (by decide) ?_
        refine a_istore F dX12_walk_69 (by decide) rfl ?_
        refine a_sub [1, 2, 3, 4, 0] rfl ?_
        exact e_3 c_2 c_3 c_4
      · refine a_aload_n F 0 dX12_walk_57 rfl rfl ?_
        refine a_iload_n F 3 dX12_walk_58 rfl rfl ?_
        exact e_4 c_2 c_3 c_4

theorem r_12_walk_62 {X : Ctx} (F : Fx X cX12_walk RX12 8 4 0 0) {I A : Nat → Nat → Int32} {J : Nat → Nat → Int64} {x1 x2 x3 : Int32}
    (e_1 : WA X (mS I A J) plM 0 0 41 [(0, .ref 0), (1, .int x1), (2, .int x2), (3, .int (x3 + (-1)))] []) :
    WA X (mS I A J) plM 0 0 62 [(0, .ref 0), (1, .int x1), (2, .int x2), (3, .int x3)] [] := by
  refine a_iinc (v := x3 + (-1)) F 3 dX12_walk_62 rfl rfl (by decide) rfl ?_
  refine a_goto (tgt := 41) F dX12_walk_65 (by decide) ?_
  refine a_sub [1, 2, 3, 0] rfl ?_
  exact e_1

theorem r_12_walk_71 {X : Ctx} (F : Fx X cX12_walk RX12 8 4 0 0) {I A : Nat → Nat → Int32} {J : Nat → Nat → Int64} {x1 x2 x3 x4 : Int32}
    (o_1 : (¬ x4 = 0) → vp_in (x3 + 1) 9)
    (o_2 : (¬ x4 = 0) → vp_in (x3 + 1) 9)
    (e_3 : (¬ x4 = 0) → WA X (mS I (up1 (up1 A 5 (upd (A 5) (x3 + 1).toNatClampNeg 25)) 6 (upd (A 6) (x3 + 1).toNatClampNeg 0)) J) plM 0 0 41 [(0, .ref 0), (1, .int x1), (2, .int (if (x3 + 1) ≤ x2 then x2 else (x3 + 1))), (3, .int (x3 + 1))] [])
    (o_4 : (x4 = 0) → vp_in x3 9)
    (e_5 : (x4 = 0) → ((A 5 x3.toNatClampNeg) ≤ 0) → WA X (mS I A J) plM 0 0 41 [(0, .ref 0), (1, .int x1), (2, .int x2), (3, .int (x3 + (-1)))] [])
    (o_6 : (x4 = 0) → (¬ ((A 5 x3.toNatClampNeg) ≤ 0)) → vp_in x3 9)
    (o_7 : (x4 = 0) → (¬ ((A 5 x3.toNatClampNeg) ≤ 0)) → vp_in x3 9)
    (o_8 : (x4 = 0) → (¬ ((A 5 x3.toNatClampNeg) ≤ 0)) → vp_in x3 9)
    (o_9 : (x4 = 0) → (¬ ((A 5 x3.toNatClampNeg) ≤ 0)) → vp_in x3 9)
    (e_10 : (x4 = 0) → (¬ ((A 5 x3.toNatClampNeg) ≤ 0)) → WA X (mS I (up1 (up1 A 6 (upd (A 6) x3.toNatClampNeg (1 - (A 6 x3.toNatClampNeg)))) 5 (upd (A 5) x3.toNatClampNeg ((A 5 x3.toNatClampNeg) - (A 6 x3.toNatClampNeg)))) J) plM 0 0 140 [(0, .ref 0), (1, .int x1), (2, .int x2), (3, .int x3), (4, .int x4), (5, .int (A 5 x3.toNatClampNeg)), (6, .int (A 6 x3.toNatClampNeg)), (7, .int (if (A 6 x3.toNatClampNeg) = 0 then (I 0 9) else (I 0 10)))] []) :
    WA X (mS I A J) plM 0 0 71 [(0, .ref 0), (1, .int x1), (2, .int x2), (3, .int x3), (4, .int x4)] [] := by
  refine a_iload F 4 dX12_walk_71 rfl ?_
  refine a_if_ne (tgt := 259) F dX12_walk_73 (by decide) (fun (c_5 : ¬ x4 = 0) => ?_) (fun (c_5 : x4 = 0) => ?_)
  · refine a_iload F 4 dX12_walk_259 rfl ?_
    refine a_if_eq (tgt := 296) F dX12_walk_261 (by decide) (fun (c_6 : x4 = 0) => ?_) (fun (c_6 : ¬ (x4 = 0)) => ?_)
    · exact absurd c_6 c_5
    · refine a_iinc (v := x3 + 1) F 3 dX12_walk_264 rfl rfl (by decide) rfl ?_
      refine a_aload_n F 1 dX12_walk_267 rfl rfl ?_
      refine a_getr (b := 5) F fl_12_23 rfl (by decide) rfl rfl dX12_walk_268 ?_
      refine a_iload_n F 0 dX12_walk_271 rfl rfl ?_
      refine a_bipush (v := 25) F dX12_walk_272 (by decide) ?_
      refine a_iast F (by decide) rfl (o_1 c_5) dX12_walk_274 ?_
      refine a_aload_n F 1 dX12_walk_275 rfl rfl ?_
      refine a_getr (b := 6) F fl_12_26 rfl (by decide) rfl rfl dX12_walk_276 ?_
      refine a_iload_n F 0 dX12_walk_279 rfl rfl ?_
      refine a_iconst (v := 0) F dX12_walk_280 (by decide) ?_
      refine a_iast F (by decide) rfl (o_2 c_5) dX12_walk_281 ?_
      refine a_iload_n F 0 dX12_walk_282 rfl rfl ?_
      refine a_iload_n F 3 dX12_walk_283 rfl rfl ?_
      suffices k : ∀ z9 : Int32, z9 = (if (x3 + 1) ≤ x2 then x2 else (x3 + 1)) → WA X (mS I (up1 (up1 A 5 (upd (A 5) (x3 + 1).toNatClampNeg 25)) 6 (upd (A 6) (x3 + 1).toNatClampNeg 0)) J) plM 0 0 292 [(3, .int (x3 + 1)), (0, .ref 0), (1, .int x1), (2, .int x2), (4, .int x4)] [.int z9] by
        refine a_icmp_le (tgt := 291) F dX12_walk_284 (by decide) (fun (c_7 : (x3 + 1) ≤ x2) => ?_) (fun (c_7 : ¬ ((x3 + 1) ≤ x2)) => ?_)
        · refine a_iload_n F 3 dX12_walk_291 rfl rfl ?_
          exact k _ (by rw [if_pos c_7] <;> rfl)
        · refine a_iload_n F 0 dX12_walk_287 rfl rfl ?_
          refine a_goto (tgt := 292) F dX12_walk_288 (by decide) ?_
          exact k _ (by rw [if_neg c_7] <;> rfl)
      rintro _ rfl
      refine a_istore_n F dX12_walk_292 rfl (by decide) rfl ?_
      refine a_goto (tgt := 299) F dX12_walk_293 (by decide) ?_
      refine a_goto (tgt := 41) F dX12_walk_299 (by decide) ?_
      refine a_sub [2, 3, 0, 1] rfl ?_
      exact e_3 c_5
  · refine a_aload_n F 0 dX12_walk_76 rfl rfl ?_
    refine a_getr (b := 5) F fl_12_23 rfl (by decide) rfl rfl dX12_walk_77 ?_
    refine a_iload_n F 3 dX12_walk_80 rfl rfl ?_
    refine a_iald F (by decide) rfl (o_4 c_5) dX12_walk_81 ?_
    refine a_if_le (tgt := 259) F dX12_walk_82 (by decide) (fun (c_8 : (A 5 x3.toNatClampNeg) ≤ 0) => ?_) (fun (c_8 : ¬ ((A 5 x3.toNatClampNeg) ≤ 0)) => ?_)
    · refine a_iload F 4 dX12_walk_259 rfl ?_
      refine a_if_eq (tgt := 296) F dX12_walk_261 (by decide) (fun (c_9 : x4 = 0) => ?_) (fun (c_9 : ¬ (x4 = 0)) => ?_)
      · refine a_iinc (v := x3 + (-1)) F 3 dX12_walk_296 rfl rfl (by decide) rfl ?_
        refine a_goto (tgt := 41) F dX12_walk_299 (by decide) ?_
        refine a_sub [1, 2, 3, 0] rfl ?_
        exact e_5 c_5 c_8
      · exact absurd c_5 c_9
    · refine a_aload_n F 0 dX12_walk_85 rfl rfl ?_
      refine a_getr (b := 5) F fl_12_23 rfl (by decide) rfl rfl dX12_walk_86 ?_
      refine a_iload_n F 3 dX12_walk_89 rfl rfl ?_
      refine a_iald F (by decide) rfl (o_6 c_5 c_8) dX12_walk_90 ?_
      refine a_istore F dX12_walk_91 (by decide) rfl ?_
      refine a_aload_n F 1 dX12_walk_93 rfl rfl ?_
      refine a_getr (b := 6) F fl_12_26 rfl (by decide) rfl rfl dX12_walk_94 ?_
      refine a_iload_n F 4 dX12_walk_97 rfl rfl ?_
      refine a_iald F (by decide) rfl (o_7 c_5 c_8) dX12_walk_98 ?_
      refine a_istore F dX12_walk_99 (by decide) rfl ?_
      refine a_aload_n F 2 dX12_walk_101 rfl rfl ?_
      refine a_getr (b := 6) F fl_12_26 rfl (by decide) rfl rfl dX12_walk_102 ?_
      refine a_iload_n F 5 dX12_walk_105 rfl rfl ?_
      refine a_iconst (v := 1) F dX12_walk_106 (by decide) ?_
      refine a_iload F 0 dX12_walk_107 rfl ?_
      refine a_isub F dX12_walk_109 ?_
      refine a_iast F (by decide) rfl (o_8 c_5 c_8) dX12_walk_110 ?_
      refine a_aload_n F 2 dX12_walk_111 rfl rfl ?_
      refine a_getr (b := 5) F fl_12_23 rfl (by decide) rfl rfl dX12_walk_112 ?_
      refine a_iload_n F 5 dX12_walk_115 rfl rfl ?_
      refine a_iload F 1 dX12_walk_116 rfl ?_
      refine a_iload F 0 dX12_walk_118 rfl ?_
      refine a_isub F dX12_walk_120 ?_
      refine a_iast F (by decide) rfl (o_9 c_5 c_8) dX12_walk_121 ?_
      refine a_iload F 0 dX12_walk_122 rfl ?_
      suffices k : ∀ z9 : Int32, z9 = (if (A 6 x3.toNatClampNeg) = 0 then (I 0 9) else (I 0 10)) → WA X (mS I (up1 (up1 A 6 (upd (A 6) x3.toNatClampNeg (1 - (A 6 x3.toNatClampNeg)))) 5 (upd (A 5) x3.toNatClampNeg ((A 5 x3.toNatClampNeg) - (A 6 x3.toNatClampNeg)))) J) plM 0 0 138 [(6, .int (A 6 x3.toNatClampNeg)), (5, .int (A 5 x3.toNatClampNeg)), (0, .ref 0), (1, .int x1), (2, .int x2), (3, .int x3), (4, .int x4)] [.int z9] by
        refine a_if_ne (tgt := 134) F dX12_walk_124 (by decide) (fun (c_10 : ¬ (A 6 x3.toNatClampNeg) = 0) => ?_) (fun (c_10 : (A 6 x3.toNatClampNeg) = 0) => ?_)
        · refine a_aload_n F 2 dX12_walk_134 rfl rfl ?_
          refine a_geti F fl_12_182 rfl (by decide) rfl dX12_walk_135 ?_
          exact k _ (by rw [if_neg c_10] <;> rfl)
        · refine a_aload_n F 2 dX12_walk_127 rfl rfl ?_
          refine a_geti F fl_12_179 rfl (by decide) rfl dX12_walk_128 ?_
          refine a_goto (tgt := 138) F dX12_walk_131 (by decide) ?_
          exact k _ (by rw [if_pos c_10] <;> rfl)
      rintro _ rfl
      refine a_istore F dX12_walk_138 (by decide) rfl ?_
      refine a_sub [3, 4, 5, 6, 7, 2, 1, 0] rfl ?_
      exact e_10 c_5 c_8

theorem r_12_walk_140 {X : Ctx} (F : Fx X cX12_walk RX12 8 4 0 0) {I A : Nat → Nat → Int32} {J : Nat → Nat → Int64} {x1 x2 x3 x4 x5 x6 x7 : Int32}
    (o_1 : vp_in x3 9)
    (o_2 : (lfI (I 0 9) (I 0 10) (A 7 x3.toNatClampNeg) x6) → ((I 0 12) = 0) → cmOK (A 3) x3 (I 0 8) x5 x7)
    (e_3 : (lfI (I 0 9) (I 0 10) (A 7 x3.toNatClampNeg) x6) → ((I 0 12) = 0) → (cmI (A 3) x3 (I 0 8) x5 x7) → WA X (mS I A J) plM 0 0 198 [(0, .ref 0), (1, .int x1), (2, .int x2), (3, .int x3), (4, .int 1), (5, .int x5), (6, .int x6), (7, .int x7)] [])
    (e_4 : (lfI (I 0 9) (I 0 10) (A 7 x3.toNatClampNeg) x6) → ((I 0 12) = 0) → (¬ (cmI (A 3) x3 (I 0 8) x5 x7)) → WA X (mS I A J) plM 0 0 71 [(0, .ref 0), (1, .int x1), (2, .int x2), (3, .int x3), (4, .int 0)] [])
    (e_5 : (lfI (I 0 9) (I 0 10) (A 7 x3.toNatClampNeg) x6) → (¬ ((I 0 12) = 0)) → (¬ x7 = (I 0 12)) → WA X (mS I A J) plM 0 0 71 [(0, .ref 0), (1, .int x1), (2, .int x2), (3, .int x3), (4, .int 0)] [])
    (o_6 : (lfI (I 0 9) (I 0 10) (A 7 x3.toNatClampNeg) x6) → (¬ ((I 0 12) = 0)) → (x7 = (I 0 12)) → cmOK (A 3) x3 (I 0 8) x5 x7)
    (e_7 : (lfI (I 0 9) (I 0 10) (A 7 x3.toNatClampNeg) x6) → (¬ ((I 0 12) = 0)) → (x7 = (I 0 12)) → (cmI (A 3) x3 (I 0 8) x5 x7) → WA X (mS I A J) plM 0 0 198 [(0, .ref 0), (1, .int x1), (2, .int x2), (3, .int x3), (4, .int 1), (5, .int x5), (6, .int x6), (7, .int x7)] [])
    (e_8 : (lfI (I 0 9) (I 0 10) (A 7 x3.toNatClampNeg) x6) → (¬ ((I 0 12) = 0)) → (x7 = (I 0 12)) → (¬ (cmI (A 3) x3 (I 0 8) x5 x7)) → WA X (mS I A J) plM 0 0 71 [(0, .ref 0), (1, .int x1), (2, .int x2), (3, .int x3), (4, .int 0)] [])
    (e_9 : (¬ (lfI (I 0 9) (I 0 10) (A 7 x3.toNatClampNeg) x6)) → WA X (mS I A J) plM 0 0 71 [(0, .ref 0), (1, .int x1), (2, .int x2), (3, .int x3), (4, .int 0)] []) :
    WA X (mS I A J) plM 0 0 140 [(0, .ref 0), (1, .int x1), (2, .int x2), (3, .int x3), (4, .int x4), (5, .int x5), (6, .int x6), (7, .int x7)] [] := by
  refine a_aload_n F 0 dX12_walk_140 rfl rfl ?_
  refine a_aload_n F 0 dX12_walk_141 rfl rfl ?_
  refine a_getr (b := 7) F fl_12_29 rfl (by decide) rfl rfl dX12_walk_142 ?_
  refine a_iload_n F 3 dX12_walk_145 rfl rfl ?_
  refine a_iald F (by decide) rfl (o_1) dX12_walk_146 ?_
  refine a_iload F 6 dX12_walk_147 rfl ?_
  refine a_callV (b := 0) (As := [.int (A 7 x3.toNatClampNeg), .int x6]) (st := []) (ci := 12) F (c_isLeft (xl X) I A J (A 7 x3.toNatClampNeg) x6) ml_12_192 im_yX12_isLeft se_yX12_isLeft (by decide) (by decide) rfl (by decide) rfl rfl dX12_walk_149 (by decide) (Nat.le_refl 0) (Nat.le_refl 0) (hl_r (by decide) (hl_i (hl_i (hl_i (hl_i (hl_i (hl_i (hl_i hl_nil)))))))) hs_nil ?_
  rintro _ _ _ ⟨rfl, rfl, rfl⟩ _
  show WA X (mS I A J) plM 0 0 152 [(0, .ref 0), (1, .int x1), (2, .int x2), (3, .int x3), (4, .int x4), (5, .int x5), (6, .int x6), (7, .int x7)] [.int (@ite Int32 (lfI (I 0 9) (I 0 10) (A 7 x3.toNatClampNeg) x6) (Classical.propDecidable _) 1 0)]
  refine a_ite (fun (c_11 : lfI (I 0 9) (I 0 10) (A 7 x3.toNatClampNeg) x6) => ?_) (fun (c_11 : ¬ (lfI (I 0 9) (I 0 10) (A 7 x3.toNatClampNeg) x6)) => ?_)
  · refine a_if_eq (tgt := 187) F dX12_walk_152 (by decide) (fun (c_12 : (1 : Int32) = 0) => ?_) (fun (c_12 : ¬ ((1 : Int32) = 0)) => ?_)
    · exact absurd c_12 (by decide)
    · refine a_aload_n F 0 dX12_walk_155 rfl rfl ?_
      refine a_geti F fl_12_196 rfl (by decide) rfl dX12_walk_156 ?_
      refine a_if_eq (tgt := 171) F dX12_walk_159 (by decide) (fun (c_13 : (I 0 12) = 0) => ?_) (fun (c_13 : ¬ ((I 0 12) = 0)) => ?_)
      · refine a_aload_n F 0 dX12_walk_171 rfl rfl ?_
        refine a_iload_n F 3 dX12_walk_172 rfl rfl ?_
        refine a_iload F 5 dX12_walk_173 rfl ?_
        refine a_iload F 7 dX12_walk_175 rfl ?_
        refine a_callV (b := 0) (As := [.int x3, .int x5, .int x7]) (st := []) (ci := 12) F (c_canMoveI (xl X) I A J x3 x5 x7 (o_2 c_11 c_13)) ml_12_199 im_yX12_canMove se_yX12_canMove (by decide) (by decide) rfl (by decide) rfl rfl dX12_walk_177 (by decide) (Nat.le_refl 0) (Nat.le_refl 0) (hl_r (by decide) (hl_i (hl_i (hl_i (hl_i (hl_i (hl_i (hl_i hl_nil)))))))) hs_nil ?_
        rintro _ _ _ ⟨rfl, rfl, rfl⟩ _
        show WA X (mS I A J) plM 0 0 180 [(0, .ref 0), (1, .int x1), (2, .int x2), (3, .int x3), (4, .int x4), (5, .int x5), (6, .int x6), (7, .int x7)] [.int (@ite Int32 (cmI (A 3) x3 (I 0 8) x5 x7) (Classical.propDecidable _) 1 0)]
        refine a_ite (fun (c_14 : cmI (A 3) x3 (I 0 8) x5 x7) => ?_) (fun (c_14 : ¬ (cmI (A 3) x3 (I 0 8) x5 x7)) => ?_)
        · refine a_if_eq (tgt := 187) F dX12_walk_180 (by decide) (fun (c_15 : (1 : Int32) = 0) => ?_) (fun (c_15 : ¬ ((1 : Int32) = 0)) => ?_)
          · exact absurd c_15 (by decide)
          · refine a_iconst (v := 1) F dX12_walk_183 (by decide) ?_
            refine a_goto (tgt := 188) F dX12_walk_184 (by decide) ?_
            refine a_istore F dX12_walk_188 (by decide) rfl ?_
            refine a_iload F 0 dX12_walk_190 rfl ?_
            refine a_if_ne (tgt := 198) F dX12_walk_192 (by decide) (fun (c_16 : ¬ (1 : Int32) = 0) => ?_) (fun (c_16 : (1 : Int32) = 0) => ?_)
            · refine a_sub [1, 2, 3, 4, 0, 5, 6, 7] rfl ?_
              exact e_3 c_11 c_13 c_14
            · exact absurd c_16 (by decide)
        · refine a_if_eq (tgt := 187) F dX12_walk_180 (by decide) (fun (c_17 : (0 : Int32) = 0) => ?_) (fun (c_17 : ¬ ((0 : Int32) = 0)) => ?_)
          · refine a_iconst (v := 0) F dX12_walk_187 (by decide) ?_
            refine a_istore F dX12_walk_188 (by decide) rfl ?_
            refine a_iload F 0 dX12_walk_190 rfl ?_
            refine a_if_ne (tgt := 198) F dX12_walk_192 (by decide) (fun (c_18 : ¬ (0 : Int32) = 0) => ?_) (fun (c_18 : (0 : Int32) = 0) => ?_)
            · exact absurd c_18 (by decide)
            · refine a_goto (tgt := 71) F dX12_walk_195 (by decide) ?_
              refine a_sub [1, 2, 3, 4, 0] rfl ?_
              exact e_4 c_11 c_13 c_14
          · exact absurd c_17 (by decide)
      · refine a_iload F 7 dX12_walk_162 rfl ?_
        refine a_aload_n F 0 dX12_walk_164 rfl rfl ?_
        refine a_geti F fl_12_196 rfl (by decide) rfl dX12_walk_165 ?_
        refine a_icmp_ne (tgt := 187) F dX12_walk_168 (by decide) (fun (c_19 : ¬ x7 = (I 0 12)) => ?_) (fun (c_19 : x7 = (I 0 12)) => ?_)
        · refine a_iconst (v := 0) F dX12_walk_187 (by decide) ?_
          refine a_istore F dX12_walk_188 (by decide) rfl ?_
          refine a_iload F 0 dX12_walk_190 rfl ?_
          refine a_if_ne (tgt := 198) F dX12_walk_192 (by decide) (fun (c_20 : ¬ (0 : Int32) = 0) => ?_) (fun (c_20 : (0 : Int32) = 0) => ?_)
          · exact absurd c_20 (by decide)
          · refine a_goto (tgt := 71) F dX12_walk_195 (by decide) ?_
            refine a_sub [1, 2, 3, 4, 0] rfl ?_
            exact e_5 c_11 c_13 c_19
        · refine a_aload_n F 0 dX12_walk_171 rfl rfl ?_
          refine a_iload_n F 3 dX12_walk_172 rfl rfl ?_
          refine a_iload F 5 dX12_walk_173 rfl ?_
          refine a_iload F 7 dX12_walk_175 rfl ?_
          refine a_callV (b := 0) (As := [.int x3, .int x5, .int x7]) (st := []) (ci := 12) F (c_canMoveI (xl X) I A J x3 x5 x7 (o_6 c_11 c_13 c_19)) ml_12_199 im_yX12_canMove se_yX12_canMove (by decide) (by decide) rfl (by decide) rfl rfl dX12_walk_177 (by decide) (Nat.le_refl 0) (Nat.le_refl 0) (hl_r (by decide) (hl_i (hl_i (hl_i (hl_i (hl_i (hl_i (hl_i hl_nil)))))))) hs_nil ?_
          rintro _ _ _ ⟨rfl, rfl, rfl⟩ _
          show WA X (mS I A J) plM 0 0 180 [(0, .ref 0), (1, .int x1), (2, .int x2), (3, .int x3), (4, .int x4), (5, .int x5), (6, .int x6), (7, .int x7)] [.int (@ite Int32 (cmI (A 3) x3 (I 0 8) x5 x7) (Classical.propDecidable _) 1 0)]
          refine a_ite (fun (c_21 : cmI (A 3) x3 (I 0 8) x5 x7) => ?_) (fun (c_21 : ¬ (cmI (A 3) x3 (I 0 8) x5 x7)) => ?_)
          · refine a_if_eq (tgt := 187) F dX12_walk_180 (by decide) (fun (c_22 : (1 : Int32) = 0) => ?_) (fun (c_22 : ¬ ((1 : Int32) = 0)) => ?_)
            · exact absurd c_22 (by decide)
            · refine a_iconst (v := 1) F dX12_walk_183 (by decide) ?_
              refine a_goto (tgt := 188) F dX12_walk_184 (by decide) ?_
              refine a_istore F dX12_walk_188 (by decide) rfl ?_
              refine a_iload F 0 dX12_walk_190 rfl ?_
              refine a_if_ne (tgt := 198) F dX12_walk_192 (by decide) (fun (c_23 : ¬ (1 : Int32) = 0) => ?_) (fun (c_23 : (1 : Int32) = 0) => ?_)
              · refine a_sub [1, 2, 3, 4, 0, 5, 6, 7] rfl ?_
                exact e_7 c_11 c_13 c_19 c_21
              · exact absurd c_23 (by decide)
          · refine a_if_eq (tgt := 187) F dX12_walk_180 (by decide) (fun (c_24 : (0 : Int32) = 0) => ?_) (fun (c_24 : ¬ ((0 : Int32) = 0)) => ?_)
            · refine a_iconst (v := 0) F dX12_walk_187 (by decide) ?_
              refine a_istore F dX12_walk_188 (by decide) rfl ?_
              refine a_iload F 0 dX12_walk_190 rfl ?_
              refine a_if_ne (tgt := 198) F dX12_walk_192 (by decide) (fun (c_25 : ¬ (0 : Int32) = 0) => ?_) (fun (c_25 : (0 : Int32) = 0) => ?_)
              · exact absurd c_25 (by decide)
              · refine a_goto (tgt := 71) F dX12_walk_195 (by decide) ?_
                refine a_sub [1, 2, 3, 4, 0] rfl ?_
                exact e_8 c_11 c_13 c_19 c_21
            · exact absurd c_24 (by decide)
  · refine a_if_eq (tgt := 187) F dX12_walk_152 (by decide) (fun (c_26 : (0 : Int32) = 0) => ?_) (fun (c_26 : ¬ ((0 : Int32) = 0)) => ?_)
    · refine a_iconst (v := 0) F dX12_walk_187 (by decide) ?_
      refine a_istore F dX12_walk_188 (by decide) rfl ?_
      refine a_iload F 0 dX12_walk_190 rfl ?_
      refine a_if_ne (tgt := 198) F dX12_walk_192 (by decide) (fun (c_27 : ¬ (0 : Int32) = 0) => ?_) (fun (c_27 : (0 : Int32) = 0) => ?_)
      · exact absurd c_27 (by decide)
      · refine a_goto (tgt := 71) F dX12_walk_195 (by decide) ?_
        refine a_sub [1, 2, 3, 4, 0] rfl ?_
        exact e_9 c_11
    · exact absurd c_26 (by decide)

theorem r_12_walk_198 {X : Ctx} (F : Fx X cX12_walk RX12 8 4 0 0) {I A : Nat → Nat → Int32} {J : Nat → Nat → Int64} {x1 x2 x3 x4 x5 x6 x7 : Int32}
    (e_1 : WA X (mS I A J) plM 0 0 204 [(0, .ref 0), (1, .int x1), (2, .int x2), (3, .int x3), (4, .int x4), (5, .int x5), (6, .int x6), (7, .int x7)] [.int x7, .int x5, .int x3, .ref 0]) :
    WA X (mS I A J) plM 0 0 198 [(0, .ref 0), (1, .int x1), (2, .int x2), (3, .int x3), (4, .int x4), (5, .int x5), (6, .int x6), (7, .int x7)] [] := by
  refine a_aload_n F 0 dX12_walk_198 rfl rfl ?_
  refine a_iload_n F 3 dX12_walk_199 rfl rfl ?_
  refine a_iload F 5 dX12_walk_200 rfl ?_
  refine a_iload F 7 dX12_walk_202 rfl ?_
  exact e_1

theorem r_12_walk_208 {X : Ctx} (F : Fx X cX12_walk RX12 8 4 0 0) {I A : Nat → Nat → Int32} {J : Nat → Nat → Int64} {x1 x2 x3 x4 x5 x6 x7 : Int32}
    (o_1 : vp_in x3 8)
    (o_2 : vp_in x3 9)
    (o_3 : vp_in (x3 + 1) 9)
    (e_4 : WA X (mS I (up1 (up1 A 4 (upd (A 4) x3.toNatClampNeg ((32 * x5) + (if x5 ≤ x7 then 0 else (x5 - x7))))) 7 (upd (A 7) (x3 + 1).toNatClampNeg (woI (I 0 9) (I 0 10) (A 7 x3.toNatClampNeg) x6))) J) plM 0 0 71 [(0, .ref 0), (1, .int x1), (2, .int x2), (3, .int x3), (4, .int x4)] []) :
    WA X (mS I A J) plM 0 0 208 [(0, .ref 0), (1, .int x1), (2, .int x2), (3, .int x3), (4, .int x4), (5, .int x5), (6, .int x6), (7, .int x7)] [] := by
  refine a_aload_n F 0 dX12_walk_208 rfl rfl ?_
  refine a_getr (b := 4) F fl_12_20 rfl (by decide) rfl rfl dX12_walk_209 ?_
  refine a_iload_n F 3 dX12_walk_212 rfl rfl ?_
  refine a_bipush (v := 32) F dX12_walk_213 (by decide) ?_
  refine a_iload F 5 dX12_walk_215 rfl ?_
  refine a_imul F dX12_walk_217 ?_
  refine a_iload F 5 dX12_walk_218 rfl ?_
  refine a_iload F 7 dX12_walk_220 rfl ?_
  suffices k : ∀ z9 : Int32, z9 = (if x5 ≤ x7 then 0 else (x5 - x7)) → WA X (mS I A J) plM 0 0 234 [(0, .ref 0), (1, .int x1), (2, .int x2), (3, .int x3), (4, .int x4), (5, .int x5), (6, .int x6), (7, .int x7)] [.int z9, .int (32 * x5), .int x3, .ref 4] by
    refine a_icmp_le (tgt := 233) F dX12_walk_222 (by decide) (fun (c_28 : x5 ≤ x7) => ?_) (fun (c_28 : ¬ (x5 ≤ x7)) => ?_)
    · refine a_iconst (v := 0) F dX12_walk_233 (by decide) ?_
      exact k _ (by rw [if_pos c_28] <;> rfl)
    · refine a_iload F 5 dX12_walk_225 rfl ?_
      refine a_iload F 7 dX12_walk_227 rfl ?_
      refine a_isub F dX12_walk_229 ?_
      refine a_goto (tgt := 234) F dX12_walk_230 (by decide) ?_
      exact k _ (by rw [if_neg c_28] <;> rfl)
  rintro _ rfl
  refine a_iadd F dX12_walk_234 ?_
  refine a_iast F (by decide) rfl (o_1) dX12_walk_235 ?_
  refine a_aload_n F 0 dX12_walk_236 rfl rfl ?_
  refine a_getr (b := 7) F fl_12_29 rfl (by decide) rfl rfl dX12_walk_237 ?_
  refine a_iload_n F 3 dX12_walk_240 rfl rfl ?_
  refine a_iconst (v := 1) F dX12_walk_241 (by decide) ?_
  refine a_iadd F dX12_walk_242 ?_
  refine a_aload_n F 0 dX12_walk_243 rfl rfl ?_
  refine a_aload_n F 0 dX12_walk_244 rfl rfl ?_
  refine a_getr (b := 7) F fl_12_29 rfl (by decide) rfl rfl dX12_walk_245 ?_
  refine a_iload_n F 3 dX12_walk_248 rfl rfl ?_
  refine a_iald F (by decide) rfl (o_2) dX12_walk_249 ?_
  refine a_iload F 6 dX12_walk_250 rfl ?_
  refine a_callV (b := 0) (As := [.int (A 7 x3.toNatClampNeg), .int x6]) (st := [.int (x3 + 1), .ref 7]) (ci := 12) F (c_without (xl X) I (up1 A 4 (upd (A 4) x3.toNatClampNeg ((32 * x5) + (if x5 ≤ x7 then 0 else (x5 - x7))))) J (A 7 x3.toNatClampNeg) x6) ml_12_206 im_yX12_without se_yX12_without (by decide) (by decide) rfl (by decide) rfl rfl dX12_walk_252 (Nat.le_of_ble_eq_true rfl) (Nat.le_refl 0) (Nat.le_refl 0) (hl_r (by decide) (hl_i (hl_i (hl_i (hl_i (hl_i (hl_i (hl_i hl_nil)))))))) (hs_i (hs_r (by decide) hs_nil)) ?_
  rintro _ _ _ ⟨rfl, rfl, rfl⟩ _
  show WA X (mS I (up1 A 4 (upd (A 4) x3.toNatClampNeg ((32 * x5) + (if x5 ≤ x7 then 0 else (x5 - x7))))) J) plM 0 0 255 [(0, .ref 0), (1, .int x1), (2, .int x2), (3, .int x3), (4, .int x4), (5, .int x5), (6, .int x6), (7, .int x7)] [.int (woI (I 0 9) (I 0 10) (A 7 x3.toNatClampNeg) x6), .int (x3 + 1), .ref 7]
  refine a_iast F (by decide) rfl (o_3) dX12_walk_255 ?_
  refine a_goto (tgt := 71) F dX12_walk_256 (by decide) ?_
  refine a_sub [0, 1, 2, 3, 4] rfl ?_
  exact e_4

set_option maxRecDepth 10000 in
theorem c_walk (l : Launch) (I A : Nat → Nat → Int32) (J : Nat → Nat → Int64) (m x y g kf len : Nat) (B0 : Nat → Nat) (hm : m ≤ 1) (h8 : I 0 8 = nI m) (h9 : I 0 9 = nI x) (h10 : I 0 10 = nI y) (h12 : I 0 12 = nI g) (hx : 1 ≤ x ∧ x ≤ 6) (hy : 1 ≤ y ∧ y ≤ 6) (hg : g ≤ 6) (hkf : kf ≤ 1) (hlen : kf = 1 → I 0 11 = nI len ∧ len ≤ 4 ∧ I 0 16 = 0) (hbd : kf = 1 → ∀ S : (Nat → Nat) → Nat → Prop, (∀ B w, S B w → rchN m x y g (L0F x y) B0 len B w) → ∀ cnt T W, tabS m S cnt T W → cnt < 3200) (hok : okB B0) (hB : bdR (A 3) 0 B0) : Con l 4 yX12_walk cX12_walk 8 (some .int) [.ref 0, .int (nI kf)] (mS I A J) plM 0 0 (walkQ I A J m x y g kf len B0) := by
  refine Con.of (by decide) (Nat.le_of_ble_eq_true rfl) (fun X hX9 hn9 F E => ?_)
  have hL0 : L0F x y ≤ 4 := by unfold L0F; split <;> omega
  have rok : ∀ {n L B w}, Rch m x y g n 0 (L0F x y) B0 0 L B w → n + L ≤ 4 ∧ okB B ∧ wOK n w := by
    intro n L B w h
    have := Rch_ok hm hx hy n 0 _ _ _ _ _ _ h (by omega) hok ⟨by decide, Nat.zero_mod _⟩
    rw [Nat.zero_add] at this; exact this
  have hk0 : nI kf = 0 ↔ kf = 0 := nI_z (by omega)
  -- a node that is to be kept, or to be gone into: at the head
  have keepN : ∀ (n L : Nat) (B : Nat → Nat) (w : Nat) (V : NS) (best : Nat) (I' A' : Nat → Nat → Int32), Rch m x y g n 0 (L0F x y) B0 0 L B w → kf = 1 → n = len → FrI I I' → bdR (A' 3) (52 * n) B → (∀ j, j < n → A' 4 j = nI (wdg w j)) → (∀ d B w, V d B w → rchN m x y g (L0F x y) B0 d B w) → tabA I' A' len m (V len) →
      (∀ I'' A'', FrI I I'' → (∀ q, q ≠ 13 → q ≠ 14 → q ≠ 15 → A'' q = A' q) → tabA I'' A'' len m (orN V (oneN n B w) len) → WA X (mS I'' A'' J) plM 0 0 41 [(0, .ref 0), (1, .int (nI kf)), (2, .int (nI best)), (3, .int (nI n + (-1)))] []) →
      WA X (mS I' A' J) plM 0 0 41 [(0, .ref 0), (1, .int (nI kf)), (2, .int (nI best)), (3, .int (nI n))] [] := by
    intro n L B w V best I' A' hR hk hn hfr hb4 hw4 hV ht K
    subst hn
    obtain ⟨r1, r2, r3⟩ := rok hR
    obtain ⟨l1, l2, l3⟩ := hlen hk
    have i11 : nI n = I' 0 11 := by rw [hfr.at (by decide), l1]
    have hnk : ¬ nI kf = 0 := fun z => by have := hk0.mp z; omega
    refine r_12_walk_41 F E (fun h => absurd h (nI_pos (by omega))) (fun _ h => absurd h hnk) (fun _ _ h => absurd i11 h) (fun _ _ _ => ?_)
    refine a_callV (b := 0) (As := [.int (nI n)]) (st := []) (ci := 12) F (c_keep (xl X) I' A' J n m w B (V n) l2 hm (by rw [hfr.at (by decide)]; exact h8) (fun B1 w1 h1 => ?_) (fun k hk => okB_le r2 hk) r3 (hbd hk _ (fun B1 w1 h1 => hV _ _ _ h1)) hb4 hw4 ht) ml_12_188 im_yX12_keep se_yX12_keep (by decide) (by decide) rfl (by decide) rfl rfl dX12_walk_59 (by decide) (Nat.le_refl 0) (Nat.le_refl 0) (hl_r (by decide) (hl_i (hl_i (hl_i hl_nil)))) hs_nil ?_
    · obtain ⟨L1, h2⟩ := hV _ _ _ h1
      obtain ⟨-, s2, s3⟩ := rok h2
      exact ⟨fun k hk => okB_le s2 hk, s3⟩
    · rintro _ _ _ ⟨I2, A2, rfl, rfl, rfl, f1, f2, f3⟩ _
      show WA X (mS I2 A2 J) plM 0 0 62 [(0, .ref 0), (1, .int (nI kf)), (2, .int (nI best)), (3, .int (nI n))] []
      refine r_12_walk_62 F ?_
      refine K I2 A2 (hfr.tr f1) f2 ?_
      rw [show orN V (oneN n B w) n = addS (V n) B w by funext B1 w1; apply propext; unfold orN oneN addS; exact ⟨fun h => h.imp id (fun z => z.2), fun h => h.imp id (fun z => ⟨rfl, z⟩)⟩]
      exact f3
  have into : ∀ (n best : Nat) (I' A' : Nat → Nat → Int32), n < limF kf len → n ≤ 4 → FrI I I' → WA X (mS I' A' J) plM 0 0 71 [(0, .ref 0), (1, .int (nI kf)), (2, .int (nI best)), (3, .int (nI n)), (4, .int 0)] [] → WA X (mS I' A' J) plM 0 0 41 [(0, .ref 0), (1, .int (nI kf)), (2, .int (nI best)), (3, .int (nI n))] [] := by
    intro n best I' A' hn hn4 hfr K
    refine r_12_walk_41 F E (fun h => absurd h (nI_pos (by omega))) (fun _ _ => K) (fun _ _ _ => K) (fun _ hk2 h => ?_)
    exfalso
    have hk : kf = 1 := by rcases (show kf = 0 ∨ kf = 1 by omega) with z | z
                           · exact absurd (hk0.mpr z) hk2
                           · exact z
    obtain ⟨l1, l2, l3⟩ := hlen hk
    rw [hfr.at (by decide), l1, nI_eq (by omega) (by omega)] at h
    unfold limF at hn; rw [if_pos hk] at hn; omega
  have expl : ∀ f (n L : Nat) (B : Nat → Nat) (w : Nat), L < f → n < limF kf len → Rch m x y g n 0 (L0F x y) B0 0 L B w →
      ∀ e c (V : NS) (best : Nat) (I' A' : Nat → Nat → Int32), c + e = 50 → n ≤ best → best ≤ 4 → FrI I I' → (kf = 0 → I' 0 16 = I 0 16) → stkW A' n L B w c → invW m kf len (rchN m x y g (L0F x y) B0) V best I' A' →
      (∀ (best' : Nat) (I'' A'' : Nat → Nat → Int32), n ≤ best' → best' ≤ 4 → FrI I I'' → (kf = 0 → I'' 0 16 = I 0 16) → FrS n A' A'' → invW m kf len (rchN m x y g (L0F x y) B0) (orN V (SubC m x y g (limF kf len) n L B w c)) best' I'' A'' → WA X (mS I'' A'' J) plM 0 0 41 [(0, .ref 0), (1, .int (nI kf)), (2, .int (nI best')), (3, .int (nI n + (-1)))] []) →
      WA X (mS I' A' J) plM 0 0 71 [(0, .ref 0), (1, .int (nI kf)), (2, .int (nI best)), (3, .int (nI n)), (4, .int 0)] [] := by
    intro f
    induction f with
    | zero => intro n L B w h; omega
    | succ f ih =>
      intro n L B w hL hn hR e
      obtain ⟨r1, r2, r3⟩ := rok hR
      have v9 : vp_in (nI n) 9 := vp_in_nI (by omega) (by omega)
      have v9' : vp_in (nI n + 1) 9 := by rw [nI_1]; exact vp_in_nI (by omega) (by omega)
      have cn : (nI n).toNatClampNeg = n := nI_clamp (by omega)
      have cn1 : (nI n + 1).toNatClampNeg = n + 1 := by rw [nI_1]; exact nI_clamp (by omega)
      induction e with
      | zero =>
        intro c V best I' A' hc hnb hb4 hfr h16 hs hi K
        obtain rfl : c = 50 := by omega
        have h0 : A' 5 (nI n).toNatClampNeg ≤ 0 := by rw [cn, hs.1]; decide
        refine r_12_walk_71 F (fun h => absurd rfl h) (fun h => absurd rfl h) (fun h => absurd rfl h) (fun _ => v9) (fun _ _ => ?_) (fun _ h => absurd h0 h) (fun _ h => absurd h0 h) (fun _ h => absurd h0 h) (fun _ h => absurd h0 h) (fun _ h => absurd h0 h)
        exact K best I' A' hnb hb4 hfr h16 (FrS.rf n A') (by rw [sub_end]; exact hi)
      | succ e ihe =>
        intro c V best I' A' hc hnb hb4 hfr h16 hs hi K
        obtain ⟨s1, s2, s3, s4, s5⟩ := id hs
        have h0 : ¬ A' 5 (nI n).toNatClampNeg ≤ 0 := by rw [cn, s1]; exact nI_nle (by omega) (by omega)
        refine r_12_walk_71 F (fun h => absurd rfl h) (fun h => absurd rfl h) (fun h => absurd rfl h) (fun _ => v9) (fun _ h => absurd h h0) (fun _ _ => v9) (fun _ _ => v9) (fun _ _ => v9) (fun _ _ => v9) (fun _ _ => ?_)
        have ed : (if nI (c % 2) = 0 then I' 0 9 else I' 0 10) = nI (dieC x y c) := by
          rw [hfr.at (by decide), hfr.at (by decide), h9, h10]; unfold dieC
          by_cases z : c % 2 = 0
          · rw [if_pos z, if_pos (by rw [z]; rfl)]
          · rw [if_neg z, if_neg (nI_ne0 (by omega) (by omega))]
        have e6 : (1 : Int32) - nI (c % 2) = nI ((c + 1) % 2) := by rw [show (c + 1) % 2 = 1 - c % 2 by omega]; exact pk_sub (a := 1) (by omega)
        have e5 : nI (25 - c / 2) - nI (c % 2) = nI (25 - (c + 1) / 2) := by rw [pk_sub (by omega)]; congr 1; omega
        rw [cn, s1, s2, ed, e6, e5]
        have q5 : up1 (up1 A' 6 (upd (A' 6) n (nI ((c + 1) % 2)))) 5 (upd (A' 5) n (nI (25 - (c + 1) / 2))) 5 = upd (A' 5) n (nI (25 - (c + 1) / 2)) := up1_s
        have q6 : up1 (up1 A' 6 (upd (A' 6) n (nI ((c + 1) % 2)))) 5 (upd (A' 5) n (nI (25 - (c + 1) / 2))) 6 = upd (A' 6) n (nI ((c + 1) % 2)) := by rw [up1_p (by decide), up1_s]
        have qo : ∀ q, q ≠ 5 → q ≠ 6 → up1 (up1 A' 6 (upd (A' 6) n (nI ((c + 1) % 2)))) 5 (upd (A' 5) n (nI (25 - (c + 1) / 2))) q = A' q := fun q h1 h2 => by rw [up1_p h1, up1_p h2]
        generalize up1 (up1 A' 6 (upd (A' 6) n (nI ((c + 1) % 2)))) 5 (upd (A' 5) n (nI (25 - (c + 1) / 2))) = A1 at q5 q6 qo ⊢
        have fr1 : FrS n A' A1 := ⟨fun j hj => ⟨by rw [q5, upd_out (by omega)], by rw [q6, upd_out (by omega)], by rw [qo 4 (by decide) (by decide)]⟩, fun j hj => by rw [qo 7 (by decide) (by decide)], fun k hk => by rw [qo 3 (by decide) (by decide)], fun q _ _ a b _ _ _ _ => qo q a b⟩
        have st1 : stkW A1 n L B w (c + 1) := ⟨by rw [q5, upd_in], by rw [q6, upd_in], by rw [qo 7 (by decide) (by decide)]; exact s3, by rw [qo 3 (by decide) (by decide)]; exact s4, by rw [qo 4 (by decide) (by decide)]; exact s5⟩
        have iv1 : invW m kf len (rchN m x y g (L0F x y) B0) V best I' A1 := ⟨hi.1, hi.2.1, fun z => tabA_cg (hi.2.2 z) rfl (qo 13 (by decide) (by decide)) (qo 14 (by decide) (by decide)) (qo 15 (by decide) (by decide))⟩
        have hdb := die_b (c := c) hx hy
        have lf : lfI (I' 0 9) (I' 0 10) (A1 7 (nI n).toNatClampNeg) (nI (c % 2)) ↔ lfP x y L (c % 2) := by
          rw [cn, st1.2.2.1, hfr.at (by decide), hfr.at (by decide), h9, h10]; exact lf_n hx.2 hy.2 (by omega) (by omega)
        have cm : cmI (A1 3) (nI n) (I' 0 8) (nI (25 - c / 2)) (nI (dieC x y c)) ↔ cmP B m (25 - c / 2) (dieC x y c) := by
          rw [hfr.at (by decide), h8]; exact cmI_n (by omega) hm (by omega) hdb.2 st1.2.2.2.1
        have co : cmOK (A1 3) (nI n) (I' 0 8) (nI (25 - c / 2)) (nI (dieC x y c)) := ⟨n, m, 25 - c / 2, dieC x y c, B, rfl, by rw [hfr.at (by decide), h8], rfl, rfl, by omega, hm, by omega, by omega, hdb.1, hdb.2, st1.2.2.2.1⟩
        have i12 : I' 0 12 = nI g := by rw [hfr.at (by decide)]; exact h12
        have g0 : I' 0 12 = 0 ↔ g = 0 := by rw [i12]; exact nI_z (by omega)
        have gd : nI (dieC x y c) = I' 0 12 ↔ dieC x y c = g := by rw [i12]; exact nI_eq (by omega) (by omega)
        by_cases ok : okC m x y g L B c
        · have ga : WA X (mS I' A1 J) plM 0 0 198 [(0, .ref 0), (1, .int (nI kf)), (2, .int (nI best)), (3, .int (nI n)), (4, .int 1), (5, .int (nI (25 - c / 2))), (6, .int (nI (c % 2))), (7, .int (nI (dieC x y c)))] [] := by
            have hlt := wo_n hx.2 hy.2 (show L ≤ 4 by omega) (show c % 2 ≤ 1 by omega) ok.1
            have hR' := Rch_snoc n 0 _ _ _ _ _ _ c hR (by omega) ok
            rw [Nat.zero_add] at hR'
            obtain ⟨t1, t2, t3⟩ := rok hR'
            refine r_12_walk_198 F ?_
            refine a_callV (b := 0) (As := [.int (nI n), .int (nI (25 - c / 2)), .int (nI (dieC x y c))]) (st := []) (ci := 12) F (c_move (xl X) I' A1 J n m (25 - c / 2) (dieC x y c) B (by omega) hm (by rw [hfr.at (by decide)]; exact h8) (by omega) (by omega) hdb.1 hdb.2 r2 ok.2.2 st1.2.2.2.1) ml_12_203 im_yX12_move se_yX12_move (by decide) (by decide) rfl (by decide) rfl rfl dX12_walk_204 (by decide) (Nat.le_refl 0) (Nat.le_refl 0) (hl_r (by decide) (hl_i (hl_i (hl_i (hl_i (hl_i (hl_i (hl_i hl_nil)))))))) hs_nil ?_
            rintro rv _ _ ⟨row, rfl, rfl, hf3, hb3, hh, hnh⟩ _
            have a208 : WA X (mS I' (up1 A1 3 row) J) plM 0 0 208 [(0, .ref 0), (1, .int (nI kf)), (2, .int (nI best)), (3, .int (nI n)), (4, .int 1), (5, .int (nI (25 - c / 2))), (6, .int (nI (c % 2))), (7, .int (nI (dieC x y c)))] [] := by
              refine r_12_walk_208 F (vp_in_nI (by omega) (by omega)) v9 v9' ?_
              have ecd : 32 * nI (25 - c / 2) + (if nI (25 - c / 2) ≤ nI (dieC x y c) then 0 else nI (25 - c / 2) - nI (dieC x y c)) = nI (cdC x y c) := by
                have : (if nI (25 - c / 2) ≤ nI (dieC x y c) then (0 : Int32) else nI (25 - c / 2) - nI (dieC x y c)) = nI (25 - c / 2 - dieC x y c) := by
                  by_cases z : 25 - c / 2 ≤ dieC x y c
                  · rw [if_pos ((nI_leI (by omega) (by omega)).mpr z), show 25 - c / 2 - dieC x y c = 0 by omega]; rfl
                  · rw [if_neg (fun z2 => z ((nI_leI (by omega) (by omega)).mp z2)), pk_sub (by omega)]
                rw [this, lit 32, pk_mul, nI_add]; rfl
              have ewo : woI (I' 0 9) (I' 0 10) (up1 A1 3 row 7 n) (nI (c % 2)) = nI (woF x y L (c % 2)) := by rw [up1_p (by decide), st1.2.2.1, hfr.at (by decide), hfr.at (by decide), h9, h10]; exact hlt.1
              rw [cn, cn1, ecd, ewo, up1_p (show (4 : Nat) ≠ 3 by decide), up1_p (show (7 : Nat) ≠ 3 by decide)]
              have p3 : up1 (up1 (up1 A1 3 row) 4 (upd (A1 4) n (nI (cdC x y c)))) 7 (upd (A1 7) (n + 1) (nI (woF x y L (c % 2)))) 3 = row := by rw [up1_p (by decide), up1_p (by decide), up1_s]
              have p4 : up1 (up1 (up1 A1 3 row) 4 (upd (A1 4) n (nI (cdC x y c)))) 7 (upd (A1 7) (n + 1) (nI (woF x y L (c % 2)))) 4 = upd (A1 4) n (nI (cdC x y c)) := by rw [up1_p (by decide), up1_s]
              have p7 : up1 (up1 (up1 A1 3 row) 4 (upd (A1 4) n (nI (cdC x y c)))) 7 (upd (A1 7) (n + 1) (nI (woF x y L (c % 2)))) 7 = upd (A1 7) (n + 1) (nI (woF x y L (c % 2))) := up1_s
              have po : ∀ q, q ≠ 3 → q ≠ 4 → q ≠ 7 → up1 (up1 (up1 A1 3 row) 4 (upd (A1 4) n (nI (cdC x y c)))) 7 (upd (A1 7) (n + 1) (nI (woF x y L (c % 2)))) q = A1 q := fun q a b d => up1_3 a b d
              generalize up1 (up1 (up1 A1 3 row) 4 (upd (A1 4) n (nI (cdC x y c)))) 7 (upd (A1 7) (n + 1) (nI (woF x y L (c % 2)))) = A2 at p3 p4 p7 po ⊢
              refine r_12_walk_71 F (fun _ => v9') (fun _ => v9') (fun _ => ?_) (fun h => absurd h (by decide)) (fun h => absurd h (by decide)) (fun h => absurd h (by decide)) (fun h => absurd h (by decide)) (fun h => absurd h (by decide)) (fun h => absurd h (by decide)) (fun h => absurd h (by decide))
              have ebest : (if nI n + 1 ≤ nI best then nI best else nI n + 1) = nI (max best (n + 1)) := by
                rw [nI_1]
                by_cases z : n + 1 ≤ best
                · rw [if_pos ((nI_leI (by omega) (by omega)).mpr z)]; congr 1; omega
                · rw [if_neg (fun z2 => z ((nI_leI (by omega) (by omega)).mp z2))]; congr 1; omega
              rw [ebest, cn1, nI_1]
              have o5 : up1 (up1 A2 5 (upd (A2 5) (n + 1) 25)) 6 (upd (A2 6) (n + 1) 0) 5 = upd (A1 5) (n + 1) 25 := by rw [up1_p (by decide), up1_s, po 5 (by decide) (by decide) (by decide)]
              have o6 : up1 (up1 A2 5 (upd (A2 5) (n + 1) 25)) 6 (upd (A2 6) (n + 1) 0) 6 = upd (A1 6) (n + 1) 0 := by rw [up1_s, po 6 (by decide) (by decide) (by decide)]
              have o3 : up1 (up1 A2 5 (upd (A2 5) (n + 1) 25)) 6 (upd (A2 6) (n + 1) 0) 3 = row := by rw [up1_p (by decide), up1_p (by decide), p3]
              have o4 : up1 (up1 A2 5 (upd (A2 5) (n + 1) 25)) 6 (upd (A2 6) (n + 1) 0) 4 = upd (A1 4) n (nI (cdC x y c)) := by rw [up1_p (by decide), up1_p (by decide), p4]
              have o7 : up1 (up1 A2 5 (upd (A2 5) (n + 1) 25)) 6 (upd (A2 6) (n + 1) 0) 7 = upd (A1 7) (n + 1) (nI (woF x y L (c % 2))) := by rw [up1_p (by decide), up1_p (by decide), p7]
              have oo : ∀ q, q ≠ 3 → q ≠ 4 → q ≠ 5 → q ≠ 6 → q ≠ 7 → up1 (up1 A2 5 (upd (A2 5) (n + 1) 25)) 6 (upd (A2 6) (n + 1) 0) q = A1 q := fun q a b d1 d2 d3 => by rw [up1_p d2, up1_p d1]; exact po q a b d3
              generalize up1 (up1 A2 5 (upd (A2 5) (n + 1) 25)) 6 (upd (A2 6) (n + 1) 0) = A4 at o3 o4 o5 o6 o7 oo ⊢
              clear p3 p4 p7 po A2
              have wx := w_ext (n := n) (w := w) (d := cdC x y c) (by omega) r3 (cd_lt (by omega))
              have stc : stkW A4 (n + 1) (woF x y L (c % 2)) (nxB m x y B c) (nxW x y n w c) 0 := ⟨by rw [o5, upd_in]; rfl, by rw [o6, upd_in]; rfl, by rw [o7, upd_in], by rw [o3]; exact hb3, fun j hj => by
                rw [o4]
                rcases Nat.lt_or_ge j n with z | z
                · rw [upd_out (by omega), st1.2.2.2.2 j z]; unfold nxW; rw [wx.2.1 j z]
                · obtain rfl : j = n := by omega
                  rw [upd_in]; unfold nxW; rw [wx.2.2]⟩
              have fr4 : FrS n A1 A4 := ⟨fun j hj => ⟨by rw [o5, upd_out (by omega)], by rw [o6, upd_out (by omega)], by rw [o4, upd_out (by omega)]⟩, fun j hj => by rw [o7, upd_out (by omega)], fun k hk => by rw [o3]; exact hf3 k (Or.inl hk), fun q a b d1 d2 d3 _ _ _ => oo q a b d1 d2 d3⟩
              have st4 : stkW A4 n L B w (c + 1) := ⟨by rw [o5, upd_out (by omega)]; exact st1.1, by rw [o6, upd_out (by omega)]; exact st1.2.1, by rw [o7, upd_out (by omega)]; exact st1.2.2.1, fun k hk => by rw [o3, hf3 _ (Or.inl (by omega))]; exact st1.2.2.2.1 k hk, fun j hj => by rw [o4, upd_out (by omega)]; exact st1.2.2.2.2 j hj⟩
              have hmax : n + 1 ≤ max best (n + 1) ∧ best ≤ max best (n + 1) ∧ max best (n + 1) ≤ 4 := by omega
              have sub1 : ∀ d B1 w1, orN V (oneN (n + 1) (nxB m x y B c) (nxW x y n w c)) d B1 w1 → rchN m x y g (L0F x y) B0 d B1 w1 ∧ d ≤ max best (n + 1) := by
                rintro d B1 w1 (z | ⟨rfl, rfl, rfl⟩)
                · exact ⟨(hi.1 d B1 w1 z).1, Nat.le_trans (hi.1 d B1 w1 z).2 hmax.2.1⟩
                · exact ⟨⟨_, hR'⟩, hmax.1⟩
              have best1 : ∃ B1 w1, orN V (oneN (n + 1) (nxB m x y B c) (nxW x y n w c)) (max best (n + 1)) B1 w1 := by
                rcases Nat.lt_or_ge best (n + 1) with z | z
                · rw [show max best (n + 1) = n + 1 by omega]; exact ⟨_, _, Or.inr ⟨rfl, rfl, rfl⟩⟩
                · rw [show max best (n + 1) = best by omega]; obtain ⟨B1, w1, z1⟩ := hi.2.1; exact ⟨B1, w1, Or.inl z1⟩
              -- behind the child: the next step
              have back : ∀ (best' : Nat) (I'' A'' : Nat → Nat → Int32), n + 1 ≤ best' → best' ≤ 4 → FrI I I'' → (kf = 0 → I'' 0 16 = I 0 16) → FrS (n + 1) A4 A'' → invW m kf len (rchN m x y g (L0F x y) B0) (orN (orN V (oneN (n + 1) (nxB m x y B c) (nxW x y n w c))) (SubC m x y g (limF kf len) (n + 1) (woF x y L (c % 2)) (nxB m x y B c) (nxW x y n w c) 0)) best' I'' A'' → WA X (mS I'' A'' J) plM 0 0 41 [(0, .ref 0), (1, .int (nI kf)), (2, .int (nI best')), (3, .int (nI (n + 1) + (-1)))] [] := by
                intro best' I'' A'' b1 b2 f1 f16 f2 iv
                rw [nI_m1]
                refine into n best' I'' A'' hn (by omega) f1 ?_
                refine ihe (c + 1) _ best' I'' A'' (by omega) (by omega) b2 f1 f16 (stk_fr st4 f2) iv (fun b3 I3 A3 g1 g2 g3 g16 g4 g5 => ?_)
                refine K b3 I3 A3 g1 g2 g3 g16 (fr1.tr (fr4.tr (f2.lo.tr g4))) ?_
                rw [← sub_step V (by omega) hn ok]; exact g5
              by_cases kk : kf = 1 ∧ n + 1 = len
              · refine keepN (n + 1) _ _ _ V _ I' A4 hR' kk.1 kk.2 hfr stc.2.2.2.1 stc.2.2.2.2 (fun d B1 w1 z => (hi.1 d B1 w1 z).1) (tabA_cg (iv1.2.2 kk.1) rfl (oo 13 (by decide) (by decide) (by decide) (by decide) (by decide)) (oo 14 (by decide) (by decide) (by decide) (by decide) (by decide)) (oo 15 (by decide) (by decide) (by decide) (by decide) (by decide))) (fun I2 A2 f1 f2 f3 => ?_)
                refine back _ I2 A2 hmax.1 hmax.2.2 f1 (fun z => by omega) ⟨fun j hj => ⟨by rw [f2 5 (by decide) (by decide) (by decide)], by rw [f2 6 (by decide) (by decide) (by decide)], by rw [f2 4 (by decide) (by decide) (by decide)]⟩, fun j hj => by rw [f2 7 (by decide) (by decide) (by decide)], fun k hk => by rw [f2 3 (by decide) (by decide) (by decide)], fun q _ _ _ _ _ z1 z2 z3 => f2 q z1 z2 z3⟩ ?_
                rw [sub_lim (by unfold limF; rw [if_pos kk.1]; omega)]
                exact ⟨sub1, best1, fun _ => f3⟩
              · have hn1 : n + 1 < limF kf len := by
                  unfold limF at hn ⊢
                  by_cases z : kf = 1
                  · rw [if_pos z] at hn ⊢
                    have : n + 1 ≠ len := fun z2 => kk ⟨z, z2⟩
                    omega
                  · rw [if_neg z]; omega
                refine into (n + 1) _ I' A4 hn1 (by omega) hfr ?_
                refine ih (n + 1) _ _ _ (by omega) hn1 hR' 50 0 _ _ I' A4 rfl hmax.1 hmax.2.2 hfr h16 stc ⟨sub1, best1, fun z => ?_⟩ (fun b3 I3 A3 g1 g2 g3 g16 g4 g5 => back b3 I3 A3 g1 g2 g3 g16 g4 g5)
                rw [show orN V (oneN (n + 1) (nxB m x y B c) (nxW x y n w c)) len = V len by
                  funext B1 w1; apply propext; unfold orN oneN
                  exact ⟨fun h => h.elim id (fun h2 => absurd ⟨z, h2.1.symm⟩ kk), Or.inl⟩]
                exact tabA_cg (iv1.2.2 z) rfl (oo 13 (by decide) (by decide) (by decide) (by decide) (by decide)) (oo 14 (by decide) (by decide) (by decide) (by decide) (by decide)) (oo 15 (by decide) (by decide) (by decide) (by decide) (by decide))
            by_cases hp : hitP B m (25 - c / 2) (dieC x y c)
            · obtain rfl := hh hp
              exact a_pop F dX12_walk_207 rfl a208
            · obtain rfl := hnh hp
              exact a_pop F dX12_walk_207 rfl a208
          exact r_12_walk_140 F v9 (fun _ _ => co) (fun _ _ _ => ga) (fun _ _ h => absurd (cm.mpr ok.2.2) h) (fun _ h1 h2 => absurd (ok.2.1.elim (fun z => absurd (g0.mpr z) h1) (fun z => gd.mpr z)) h2) (fun _ _ _ => co) (fun _ _ _ _ => ga) (fun _ _ _ h => absurd (cm.mpr ok.2.2) h) (fun h => absurd (lf.mpr ok.1) h)
        · have ga : WA X (mS I' A1 J) plM 0 0 71 [(0, .ref 0), (1, .int (nI kf)), (2, .int (nI best)), (3, .int (nI n)), (4, .int 0)] [] := by
            refine ihe (c + 1) V best I' A1 (by omega) hnb hb4 hfr h16 st1 iv1 (fun b3 I3 A3 g1 g2 g3 g16 g4 g5 => ?_)
            refine K b3 I3 A3 g1 g2 g3 g16 (fr1.tr g4) ?_
            rw [← sub_skip ok]; exact g5
          exact r_12_walk_140 F v9 (fun _ _ => co) (fun h1 h2 h3 => absurd ⟨lf.mp h1, Or.inl (g0.mp h2), cm.mp h3⟩ ok) (fun _ _ _ => ga) (fun _ _ _ => ga) (fun _ _ _ => co) (fun h1 h2 h3 h4 => absurd ⟨lf.mp h1, Or.inr (gd.mp h3), cm.mp h4⟩ ok) (fun _ _ _ _ => ga) (fun _ => ga)
  -- the root
  have v0 : vp_in 0 9 := vp_in_nI (n := 0) (by omega) (by omega)
  refine r_12_walk_0 F v0 v0 v0 ?_
  have eL : (if I 0 9 = I 0 10 then (4 : Int32) else 3) = nI (L0F x y) := by
    rw [h9, h10]; unfold L0F
    by_cases z : x = y
    · rw [if_pos z, if_pos (by rw [z])]; rfl
    · rw [if_neg z, if_neg (fun z2 => z ((nI_eq (by omega) (by omega)).mp z2))]; rfl
  rw [eL]
  have o5 : up1 (up1 (up1 A 5 (upd (A 5) 0 25)) 6 (upd (A 6) 0 0)) 7 (upd (A 7) 0 (nI (L0F x y))) 5 = upd (A 5) 0 25 := by rw [up1_p (by decide), up1_p (by decide), up1_s]
  have o6 : up1 (up1 (up1 A 5 (upd (A 5) 0 25)) 6 (upd (A 6) 0 0)) 7 (upd (A 7) 0 (nI (L0F x y))) 6 = upd (A 6) 0 0 := by rw [up1_p (by decide), up1_s]
  have o7 : up1 (up1 (up1 A 5 (upd (A 5) 0 25)) 6 (upd (A 6) 0 0)) 7 (upd (A 7) 0 (nI (L0F x y))) 7 = upd (A 7) 0 (nI (L0F x y)) := up1_s
  have oo : ∀ q, q ≠ 5 → q ≠ 6 → q ≠ 7 → up1 (up1 (up1 A 5 (upd (A 5) 0 25)) 6 (upd (A 6) 0 0)) 7 (upd (A 7) 0 (nI (L0F x y))) q = A q := fun q a b d => up1_3 a b d
  generalize up1 (up1 (up1 A 5 (upd (A 5) 0 25)) 6 (upd (A 6) 0 0)) 7 (upd (A 7) 0 (nI (L0F x y))) = A1 at o5 o6 o7 oo ⊢
  have hR0 : Rch m x y g 0 0 (L0F x y) B0 0 (L0F x y) B0 0 := ⟨rfl, rfl, rfl⟩
  have st0 : stkW A1 0 (L0F x y) B0 0 0 := ⟨by rw [o5, upd_in]; rfl, by rw [o6, upd_in]; rfl, by rw [o7, upd_in], by rw [oo 3 (by decide) (by decide) (by decide)]; exact hB, fun j hj => by omega⟩
  have one1 : ∀ d B1 w1, oneN 0 B0 0 d B1 w1 → rchN m x y g (L0F x y) B0 d B1 w1 ∧ d ≤ 0 := by
    rintro d B1 w1 ⟨rfl, rfl, rfl⟩; exact ⟨⟨_, hR0⟩, Nat.le_refl _⟩
  have fin : ∀ (best' : Nat) (I'' A'' : Nat → Nat → Int32), best' ≤ 4 → FrI I I'' → (kf = 0 → I'' 0 16 = I 0 16) → FrO A1 A'' → (∀ k, k < 52 → A'' 3 k = A1 3 k) → invW m kf len (rchN m x y g (L0F x y) B0) (orN (oneN 0 B0 0) (SubC m x y g (limF kf len) 0 (L0F x y) B0 0 0)) best' I'' A'' → WA X (mS I'' A'' J) plM 0 0 41 [(0, .ref 0), (1, .int (nI kf)), (2, .int (nI best')), (3, .int (nI 0 + (-1)))] [] := by
    intro best' I'' A'' b4 f1 f16 f2 f3 iv
    have hneg : nI 0 + (-1) < 0 := by decide
    refine r_12_walk_41 F E (fun _ => ?_) (fun h => absurd hneg h) (fun h => absurd hneg h) (fun h => absurd hneg h)
    rw [sub_all] at iv
    refine ⟨I'', A'', best', rfl, rfl, rfl, f1, fun q a b d1 d2 d3 d4 d5 d6 => (f2 q a b d1 d2 d3 d4 d5 d6).trans (oo q d1 d2 d3), fun k hk => by rw [f3 k hk, oo 3 (by decide) (by decide) (by decide)], f16, b4, fun d B1 w1 hd h => (iv.1 d B1 w1 ⟨hd, h⟩).2, ?_, fun z => ?_⟩
    · obtain ⟨B1, w1, h⟩ := iv.2.1; exact ⟨B1, w1, h.2⟩
    · have : tabA I'' A'' len m (fun B' w' => (len = 0 ∨ len ≤ limF kf len) ∧ ∃ L', Rch m x y g len 0 (L0F x y) B0 0 L' B' w') := iv.2.2 z
      rw [show (fun B' w' => (len = 0 ∨ len ≤ limF kf len) ∧ ∃ L', Rch m x y g len 0 (L0F x y) B0 0 L' B' w') = rchN m x y g (L0F x y) B0 len by
        funext B1 w1; apply propext
        exact ⟨fun h => h.2, fun h => ⟨Or.inr (by unfold limF; rw [if_pos z]; exact Nat.le_refl _), h⟩⟩] at this
      exact this
  have tab0 : kf = 1 → tabA I A1 len m (fun _ _ => False) := fun z => ⟨0, fun _ => 0, fun _ _ => 0, fun _ => 0, (hlen z).2.2, ⟨by omega, fun i hi => by omega, fun i j hi => by omega, fun i hi => by omega, fun i hi => by omega⟩, fun i hi => by omega, fun B w h => h.elim, fun i j _ hj => by omega⟩
  by_cases kk : kf = 1 ∧ 0 = len
  · refine keepN 0 _ B0 0 (fun _ _ _ => False) 0 I A1 hR0 kk.1 kk.2 (FrI.rf I) st0.2.2.2.1 (fun j hj => by omega) (fun _ _ _ h => h.elim) (tab0 kk.1) (fun I2 A2 f1 f2 f3 => ?_)
    refine fin 0 I2 A2 (by omega) f1 (fun z => by omega) (fun q _ _ _ _ _ a b d => f2 q a b d) (fun k hk => by rw [f2 3 (by decide) (by decide) (by decide)]) ?_
    have e1 : orN (fun _ _ _ => False) (oneN 0 B0 0) = oneN 0 B0 0 := by funext d B1 w1; apply propext; unfold orN; exact ⟨fun h => h.elim (fun z => z.elim) id, Or.inr⟩
    rw [e1] at f3
    rw [sub_lim (by unfold limF; rw [if_pos kk.1]; omega)]
    exact ⟨one1, ⟨B0, 0, rfl, rfl, rfl⟩, fun _ => f3⟩
  · have h0l : 0 < limF kf len := by
      unfold limF
      by_cases z : kf = 1
      · rw [if_pos z]; have : 0 ≠ len := fun z2 => kk ⟨z, z2⟩; omega
      · rw [if_neg z]; omega
    refine into 0 0 I A1 h0l (by omega) (FrI.rf I) ?_
    refine expl 5 0 (L0F x y) B0 0 (by omega) h0l hR0 50 0 (oneN 0 B0 0) 0 I A1 rfl (Nat.le_refl _) (by omega) (FrI.rf I) (fun _ => rfl) st0 ⟨one1, ⟨B0, 0, rfl, rfl, rfl⟩, fun z => ?_⟩ (fun b3 I3 A3 g1 g2 g3 g16 g4 g5 => fin b3 I3 A3 g2 g3 g16 g4.2.2.2 (fun k hk => g4.2.2.1 k (by omega)) g5)
    rw [show oneN 0 B0 0 len = fun _ _ => False by
      funext B1 w1; apply propext; unfold oneN
      exact ⟨fun h => kk ⟨z, h.1.symm⟩, fun h => h.elim⟩]
    exact tab0 z
