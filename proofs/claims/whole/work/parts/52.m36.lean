theorem rowc {A : Nat → Nat → Int32} {p : Nat} {r r' : Nat → Int32} : up1 (up1 A p r) p r' = up1 A p r' := up1_up1 A p r r'
def leQ (I A : Nat → Nat → Int32) (J : Nat → Nat → Int64) (v most U L : Nat) : Option Value → HS → List Nat → Prop := fun r σ' pl' => ∃ A' n, r = none ∧ σ' = mS I A' J ∧ pl' = plM ∧ (∀ p, p ≠ 62 → p ≠ 63 → p ≠ 64 → A' p = A p) ∧ lessN U v most n ∧ digV (A' 62) 12 ∧ valR (A' 62) 12 = U / v ^ n ∧ digV (A' 63) 12 ∧ valR (A' 63) 12 = L / v ^ n

theorem r_12_lessen_0 {X : Ctx} (F : Fx X cX12_lessen RX12 6 2 0 0) {I A : Nat → Nat → Int32} {J : Nat → Nat → Int64} {x1 x2 : Int32}
    (e_1 : WA X (mS I A J) plM 0 0 5 [(0, .ref 0), (1, .int x1), (2, .int x2), (3, .int 1), (4, .int 0)] []) :
    WA X (mS I A J) plM 0 0 0 [(0, .ref 0), (1, .int x1), (2, .int x2)] [] := by
  refine a_iconst (v := 1) F dX12_lessen_0 (by decide) ?_
  refine a_istore_n F dX12_lessen_1 rfl (by decide) rfl ?_
  refine a_iconst (v := 0) F dX12_lessen_2 (by decide) ?_
  refine a_istore F dX12_lessen_3 (by decide) rfl ?_
  refine a_sub [2, 3, 4, 1, 0] rfl ?_
  exact e_1

theorem r_12_lessen_5 {X : Ctx} (F : Fx X cX12_lessen RX12 6 2 0 0) {Φ : Option Value → HS → List Nat → Prop} (E : Ex X none 0 0 Φ) {I A : Nat → Nat → Int32} {J : Nat → Nat → Int64} {x1 x2 x3 x4 : Int32}
    (e_1 : (x2 ≤ x4) → Φ none (mS I A J) plM)
    (e_2 : (¬ (x2 ≤ x4)) → (x3 = 0) → Φ none (mS I A J) plM)
    (e_3 : (¬ (x2 ≤ x4)) → (¬ (x3 = 0)) → WA X (mS I A J) plM 0 0 18 [(0, .ref 0), (1, .int x1), (2, .int x2), (3, .int x3), (4, .int x4), (5, .int 0)] []) :
    WA X (mS I A J) plM 0 0 5 [(0, .ref 0), (1, .int x1), (2, .int x2), (3, .int x3), (4, .int x4)] [] := by
  refine a_iload F 4 dX12_lessen_5 rfl ?_
  refine a_iload_n F 2 dX12_lessen_7 rfl rfl ?_
  refine a_icmp_ge (tgt := 114) F dX12_lessen_8 (by decide) (fun (c_1 : x2 ≤ x4) => ?_) (fun (c_1 : ¬ (x2 ≤ x4)) => ?_)
  · exact a_vret F E dX12_lessen_114 (Nat.le_refl 0) (Nat.le_refl 0) (e_1 c_1)
  · refine a_iload_n F 3 dX12_lessen_11 rfl rfl ?_
    refine a_if_eq (tgt := 114) F dX12_lessen_12 (by decide) (fun (c_2 : x3 = 0) => ?_) (fun (c_2 : ¬ (x3 = 0)) => ?_)
    · exact a_vret F E dX12_lessen_114 (Nat.le_refl 0) (Nat.le_refl 0) (e_2 c_1 c_2)
    · refine a_iconst (v := 0) F dX12_lessen_15 (by decide) ?_
      refine a_istore F dX12_lessen_16 (by decide) rfl ?_
      refine a_sub [1, 2, 3, 4, 5, 0] rfl ?_
      exact e_3 c_1 c_2

theorem r_12_lessen_18 {X : Ctx} (F : Fx X cX12_lessen RX12 6 2 0 0) {I A : Nat → Nat → Int32} {J : Nat → Nat → Int64} {x1 x2 x3 x4 x5 : Int32}
    (e_1 : (12 ≤ x5) → WA X (mS I A J) plM 0 0 45 [(0, .ref 0), (1, .int x1), (2, .int x2), (3, .int x3), (4, .int x4), (5, .int x5)] [])
    (o_2 : (¬ (12 ≤ x5)) → vp_in x5 12)
    (o_3 : (¬ (12 ≤ x5)) → vp_in x5 12)
    (e_4 : (¬ (12 ≤ x5)) → WA X (mS I (up1 A 64 (upd (A 64) x5.toNatClampNeg (A 62 x5.toNatClampNeg))) J) plM 0 0 18 [(0, .ref 0), (1, .int x1), (2, .int x2), (3, .int x3), (4, .int x4), (5, .int (x5 + 1))] []) :
    WA X (mS I A J) plM 0 0 18 [(0, .ref 0), (1, .int x1), (2, .int x2), (3, .int x3), (4, .int x4), (5, .int x5)] [] := by
  refine a_iload F 5 dX12_lessen_18 rfl ?_
  refine a_bipush (v := 12) F dX12_lessen_20 (by decide) ?_
  refine a_icmp_ge (tgt := 45) F dX12_lessen_22 (by decide) (fun (c_3 : 12 ≤ x5) => ?_) (fun (c_3 : ¬ (12 ≤ x5)) => ?_)
  · exact e_1 c_3
  · refine a_aload_n F 0 dX12_lessen_25 rfl rfl ?_
    refine a_getr (b := 64) F fl_12_115 rfl (by decide) rfl rfl dX12_lessen_26 ?_
    refine a_iload F 5 dX12_lessen_29 rfl ?_
    refine a_aload_n F 0 dX12_lessen_31 rfl rfl ?_
    refine a_getr (b := 62) F fl_12_109 rfl (by decide) rfl rfl dX12_lessen_32 ?_
    refine a_iload F 5 dX12_lessen_35 rfl ?_
    refine a_iald F (by decide) rfl (o_2 c_3) dX12_lessen_37 ?_
    refine a_iast F (by decide) rfl (o_3 c_3) dX12_lessen_38 ?_
    refine a_iinc (v := x5 + 1) F 5 dX12_lessen_39 rfl rfl (by decide) rfl ?_
    refine a_goto (tgt := 18) F dX12_lessen_42 (by decide) ?_
    refine a_sub [1, 2, 3, 4, 5, 0] rfl ?_
    exact e_4 c_3

theorem r_12_lessen_45 {X : Ctx} (F : Fx X cX12_lessen RX12 6 2 0 0) {I A : Nat → Nat → Int32} {J : Nat → Nat → Int64} {x1 x2 x3 x4 x5 : Int32}
    (o_1 : digV (A 64) 12)
    (o_2 : 1 ≤ x1 ∧ x1 ≤ 64)
    (e_3 : (¬ (nI (valR (A 64) 12 % x1.toNatClampNeg)) = 0) → WA X (mS I (up1 A 64 (putR (A 64) 12 (valR (A 64) 12 / x1.toNatClampNeg))) J) plM 0 0 5 [(0, .ref 0), (1, .int x1), (2, .int x2), (3, .int 0), (4, .int (x4 + 1))] [])
    (e_4 : ((nI (valR (A 64) 12 % x1.toNatClampNeg)) = 0) → WA X (mS I (up1 A 64 (putR (A 64) 12 (valR (A 64) 12 / x1.toNatClampNeg))) J) plM 0 0 69 [(0, .ref 0), (1, .int x1), (2, .int x2), (3, .int 1), (4, .int x4), (5, .int x5)] []) :
    WA X (mS I A J) plM 0 0 45 [(0, .ref 0), (1, .int x1), (2, .int x2), (3, .int x3), (4, .int x4), (5, .int x5)] [] := by
  refine a_aload_n F 0 dX12_lessen_45 rfl rfl ?_
  refine a_getr (b := 64) F fl_12_115 rfl (by decide) rfl rfl dX12_lessen_46 ?_
  refine a_iload_n F 1 dX12_lessen_49 rfl rfl ?_
  refine a_callS (As := [.ref 64, .int x1]) (st := []) F (c_overI (xl X) I A J 64 x1 (by decide) rfl (by decide) (o_1) (o_2)) ml_12_391 sm_yX12_over (by decide) rfl dX12_lessen_50 (by decide) (Nat.le_refl 0) (Nat.le_refl 0) (hl_r (by decide) (hl_i (hl_i (hl_i (hl_i (hl_i hl_nil)))))) hs_nil ?_
  rintro _ _ _ ⟨rfl, rfl, rfl⟩ _
  show WA X (mS I (up1 A 64 (putR (A 64) 12 (valR (A 64) 12 / x1.toNatClampNeg))) J) plM 0 0 53 [(0, .ref 0), (1, .int x1), (2, .int x2), (3, .int x3), (4, .int x4), (5, .int x5)] [.int (nI (valR (A 64) 12 % x1.toNatClampNeg))]
  refine a_if_ne (tgt := 60) F dX12_lessen_53 (by decide) (fun (c_4 : ¬ (nI (valR (A 64) 12 % x1.toNatClampNeg)) = 0) => ?_) (fun (c_4 : (nI (valR (A 64) 12 % x1.toNatClampNeg)) = 0) => ?_)
  · refine a_iconst (v := 0) F dX12_lessen_60 (by decide) ?_
    refine a_istore_n F dX12_lessen_61 rfl (by decide) rfl ?_
    refine a_iload_n F 0 dX12_lessen_62 rfl rfl ?_
    refine a_if_ne (tgt := 69) F dX12_lessen_63 (by decide) (fun (c_5 : ¬ (0 : Int32) = 0) => ?_) (fun (c_5 : (0 : Int32) = 0) => ?_)
    · exact absurd c_5 (by decide)
    · refine a_goto (tgt := 108) F dX12_lessen_66 (by decide) ?_
      refine a_iinc (v := x4 + 1) F 4 dX12_lessen_108 rfl rfl (by decide) rfl ?_
      refine a_goto (tgt := 5) F dX12_lessen_111 (by decide) ?_
      refine a_sub [2, 3, 4, 1, 0] rfl ?_
      exact e_3 c_4
  · refine a_iconst (v := 1) F dX12_lessen_56 (by decide) ?_
    refine a_goto (tgt := 61) F dX12_lessen_57 (by decide) ?_
    refine a_istore_n F dX12_lessen_61 rfl (by decide) rfl ?_
    refine a_iload_n F 0 dX12_lessen_62 rfl rfl ?_
    refine a_if_ne (tgt := 69) F dX12_lessen_63 (by decide) (fun (c_6 : ¬ (1 : Int32) = 0) => ?_) (fun (c_6 : (1 : Int32) = 0) => ?_)
    · refine a_sub [1, 2, 3, 0, 4, 5] rfl ?_
      exact e_4 c_4
    · exact absurd c_6 (by decide)

theorem r_12_lessen_69 {X : Ctx} (F : Fx X cX12_lessen RX12 6 2 0 0) {I A : Nat → Nat → Int32} {J : Nat → Nat → Int64} {x1 x2 x3 x4 x5 : Int32}
    (e_1 : WA X (mS I A J) plM 0 0 72 [(0, .ref 0), (1, .int x1), (2, .int x2), (3, .int x3), (4, .int x4), (5, .int 0)] []) :
    WA X (mS I A J) plM 0 0 69 [(0, .ref 0), (1, .int x1), (2, .int x2), (3, .int x3), (4, .int x4), (5, .int x5)] [] := by
  refine a_iconst (v := 0) F dX12_lessen_69 (by decide) ?_
  refine a_istore F dX12_lessen_70 (by decide) rfl ?_
  refine a_sub [1, 2, 3, 4, 5, 0] rfl ?_
  exact e_1

theorem r_12_lessen_72 {X : Ctx} (F : Fx X cX12_lessen RX12 6 2 0 0) {I A : Nat → Nat → Int32} {J : Nat → Nat → Int64} {x1 x2 x3 x4 x5 : Int32}
    (e_1 : (12 ≤ x5) → WA X (mS I A J) plM 0 0 99 [(0, .ref 0), (1, .int x1), (2, .int x2), (3, .int x3), (4, .int x4), (5, .int x5)] [])
    (o_2 : (¬ (12 ≤ x5)) → vp_in x5 12)
    (o_3 : (¬ (12 ≤ x5)) → vp_in x5 12)
    (e_4 : (¬ (12 ≤ x5)) → WA X (mS I (up1 A 62 (upd (A 62) x5.toNatClampNeg (A 64 x5.toNatClampNeg))) J) plM 0 0 72 [(0, .ref 0), (1, .int x1), (2, .int x2), (3, .int x3), (4, .int x4), (5, .int (x5 + 1))] []) :
    WA X (mS I A J) plM 0 0 72 [(0, .ref 0), (1, .int x1), (2, .int x2), (3, .int x3), (4, .int x4), (5, .int x5)] [] := by
  refine a_iload F 5 dX12_lessen_72 rfl ?_
  refine a_bipush (v := 12) F dX12_lessen_74 (by decide) ?_
  refine a_icmp_ge (tgt := 99) F dX12_lessen_76 (by decide) (fun (c_7 : 12 ≤ x5) => ?_) (fun (c_7 : ¬ (12 ≤ x5)) => ?_)
  · exact e_1 c_7
  · refine a_aload_n F 0 dX12_lessen_79 rfl rfl ?_
    refine a_getr (b := 62) F fl_12_109 rfl (by decide) rfl rfl dX12_lessen_80 ?_
    refine a_iload F 5 dX12_lessen_83 rfl ?_
    refine a_aload_n F 0 dX12_lessen_85 rfl rfl ?_
    refine a_getr (b := 64) F fl_12_115 rfl (by decide) rfl rfl dX12_lessen_86 ?_
    refine a_iload F 5 dX12_lessen_89 rfl ?_
    refine a_iald F (by decide) rfl (o_2 c_7) dX12_lessen_91 ?_
    refine a_iast F (by decide) rfl (o_3 c_7) dX12_lessen_92 ?_
    refine a_iinc (v := x5 + 1) F 5 dX12_lessen_93 rfl rfl (by decide) rfl ?_
    refine a_goto (tgt := 72) F dX12_lessen_96 (by decide) ?_
    refine a_sub [1, 2, 3, 4, 5, 0] rfl ?_
    exact e_4 c_7

theorem r_12_lessen_99 {X : Ctx} (F : Fx X cX12_lessen RX12 6 2 0 0) {I A : Nat → Nat → Int32} {J : Nat → Nat → Int64} {x1 x2 x3 x4 x5 : Int32}
    (o_1 : digV (A 63) 12)
    (o_2 : 1 ≤ x1 ∧ x1 ≤ 64)
    (e_3 : WA X (mS I (up1 A 63 (putR (A 63) 12 (valR (A 63) 12 / x1.toNatClampNeg))) J) plM 0 0 5 [(0, .ref 0), (1, .int x1), (2, .int x2), (3, .int x3), (4, .int (x4 + 1))] []) :
    WA X (mS I A J) plM 0 0 99 [(0, .ref 0), (1, .int x1), (2, .int x2), (3, .int x3), (4, .int x4), (5, .int x5)] [] := by
  refine a_aload_n F 0 dX12_lessen_99 rfl rfl ?_
  refine a_getr (b := 63) F fl_12_112 rfl (by decide) rfl rfl dX12_lessen_100 ?_
  refine a_iload_n F 1 dX12_lessen_103 rfl rfl ?_
  refine a_callS (As := [.ref 63, .int x1]) (st := []) F (c_overI (xl X) I A J 63 x1 (by decide) rfl (by decide) (o_1) (o_2)) ml_12_391 sm_yX12_over (by decide) rfl dX12_lessen_104 (by decide) (Nat.le_refl 0) (Nat.le_refl 0) (hl_r (by decide) (hl_i (hl_i (hl_i (hl_i (hl_i hl_nil)))))) hs_nil ?_
  rintro _ _ _ ⟨rfl, rfl, rfl⟩ _
  show WA X (mS I (up1 A 63 (putR (A 63) 12 (valR (A 63) 12 / x1.toNatClampNeg))) J) plM 0 0 107 [(0, .ref 0), (1, .int x1), (2, .int x2), (3, .int x3), (4, .int x4), (5, .int x5)] [.int (nI (valR (A 63) 12 % x1.toNatClampNeg))]
  refine a_pop F dX12_lessen_107 rfl ?_
  refine a_iinc (v := x4 + 1) F 4 dX12_lessen_108 rfl rfl (by decide) rfl ?_
  refine a_goto (tgt := 5) F dX12_lessen_111 (by decide) ?_
  refine a_sub [1, 2, 3, 4, 0] rfl ?_
  exact e_3

set_option maxRecDepth 10000 in
theorem c_lessen (l : Launch) (I A : Nat → Nat → Int32) (J : Nat → Nat → Int64) (v most U L : Nat) (hv2 : 2 ≤ v) (hv3 : v ≤ 3) (hm : most ≤ 100) (d1 : digV (A 62) 12) (v1 : valR (A 62) 12 = U) (d2 : digV (A 63) 12) (v2 : valR (A 63) 12 = L) : Con l 2 yX12_lessen cX12_lessen 6 none [.ref 0, .int (nI v), .int (nI most)] (mS I A J) plM 0 0 (leQ I A J v most U L) := by
  refine Con.of (by decide) (Nat.le_of_ble_eq_true rfl) (fun X hX9 hn9 F E => ?_)
  have hU := val_lt _ d1
  have hL := val_lt _ d2
  rw [v1] at hU; rw [v2] at hL
  have cv : (nI v).toNatClampNeg = v := nI_clamp (by omega)
  have v64 : 1 ≤ nI v ∧ nI v ≤ 64 := ⟨(nI_gen 1 (by omega) (by omega)).mpr (by omega), (nI_len 64 (by omega) (by omega)).mpr (by omega)⟩
  have hpos : ∀ n, 0 < v ^ n := fun n => Nat.pow_pos (by omega)
  have loop : ∀ f n (A1 : Nat → Nat → Int32), n + f = most → v ^ n ∣ U → digV (A1 62) 12 → valR (A1 62) 12 = U / v ^ n → digV (A1 63) 12 → valR (A1 63) 12 = L / v ^ n → (∀ p, p ≠ 62 → p ≠ 63 → p ≠ 64 → A1 p = A p) → WA X (mS I A1 J) plM 0 0 5 [(0, .ref 0), (1, .int (nI v)), (2, .int (nI most)), (3, .int 1), (4, .int (nI n))] [] := by
    intro f
    induction f with
    | zero =>
      intro n A1 hn hdv e1 e2 e3 e4 fr
      obtain rfl : n = most := by omega
      have h := (nI_leI (a := n) (b := n) (by omega) (by omega)).mpr (Nat.le_refl _)
      exact r_12_lessen_5 F E (fun _ => ⟨A1, n, rfl, rfl, rfl, fr, ⟨Nat.le_refl _, hdv, fun z => by omega⟩, e1, e2, e3, e4⟩) (fun z => absurd h z) (fun z => absurd h z)
    | succ f ih =>
      intro n A1 hn hdv e1 e2 e3 e4 fr
      have h : ¬ nI most ≤ nI n := fun z => by have := (nI_leI (a := most) (b := n) (by omega) (by omega)).mp z; omega
      refine r_12_lessen_5 F E (fun z => absurd z h) (fun _ z => absurd z (by decide)) (fun _ _ => ?_)
      have dvd : (U / v ^ n) % v = 0 ↔ v ^ (n + 1) ∣ U := by
        obtain ⟨w, rfl⟩ := hdv
        rw [Nat.mul_div_cancel_left _ (hpos n), Nat.pow_succ]
        exact ⟨fun z => Nat.mul_dvd_mul_left _ (Nat.dvd_of_mod_eq_zero z), fun z => Nat.mod_eq_zero_of_dvd (Nat.dvd_of_mul_dvd_mul_left (hpos n) z)⟩
      -- the copy is made
      have go45 : ∀ x5 : Int32, WA X (mS I (up1 A1 64 (fillF (A1 64) 12 (A1 62))) J) plM 0 0 45 [(0, .ref 0), (1, .int (nI v)), (2, .int (nI most)), (3, .int 1), (4, .int (nI n)), (5, .int x5)] [] := by
        intro x5
        have dcp : digV (fillF (A1 64) 12 (A1 62)) 12 := fun k hk => by rw [fill_in hk]; exact e1 k hk
        have vcp : valR (fillF (A1 64) 12 (A1 62)) 12 = U / v ^ n := by rw [val_cg (r' := A1 62) 12 (fun k hk => fill_in hk)]; exact e2
        refine r_12_lessen_45 F (by rw [up1_s]; exact dcp) v64 (fun c => ?_) (fun c => ?_)
        · rw [up1_s, vcp, cv] at c
          have hno : ¬ v ^ (n + 1) ∣ U := fun z => c (by rw [dvd.mpr z]; rfl)
          rw [up1_s, up1_up1, nI_1]
          have res : leQ I A J v most U L none (mS I (up1 A1 64 (putR (fillF (A1 64) 12 (A1 62)) 12 (valR (fillF (A1 64) 12 (A1 62)) 12 / (nI v).toNatClampNeg))) J) plM := ⟨_, n, rfl, rfl, rfl, fun p p1 p2 p3 => by rw [up1_p p3]; exact fr p p1 p2 p3, ⟨by omega, hdv, fun _ => hno⟩, by rw [up1_p (by decide)]; exact e1, by rw [up1_p (by decide)]; exact e2, by rw [up1_p (by decide)]; exact e3, by rw [up1_p (by decide)]; exact e4⟩
          exact r_12_lessen_5 F E (fun _ => res) (fun _ _ => res) (fun _ z => absurd rfl z)
        · rw [up1_s, vcp, cv] at c
          have hyes : v ^ (n + 1) ∣ U := dvd.mp ((nI_z (by have := Nat.mod_lt (U / v ^ n) (show 0 < v by omega); omega)).mp c)
          rw [up1_s, up1_up1, vcp, cv, Nat.div_div_eq_div_mul, ← Nat.pow_succ]
          refine r_12_lessen_69 F ?_
          generalize hr64 : putR (fillF (A1 64) 12 (A1 62)) 12 (U / v ^ (n + 1)) = r64
          have d64 : digV r64 12 := by rw [← hr64]; exact put_dig
          have w64 : valR r64 12 = U / v ^ (n + 1) := by rw [← hr64, put_val 12 (Nat.le_refl _)]; exact Nat.mod_eq_of_lt (Nat.lt_of_le_of_lt (Nat.div_le_self _ _) hU)
          have go99 : ∀ x5 : Int32, WA X (mS I (up1 (up1 A1 64 r64) 62 (fillF (A1 62) 12 r64)) J) plM 0 0 99 [(0, .ref 0), (1, .int (nI v)), (2, .int (nI most)), (3, .int 1), (4, .int (nI n)), (5, .int x5)] [] := by
            intro x5
            have e63 : up1 (up1 A1 64 r64) 62 (fillF (A1 62) 12 r64) 63 = A1 63 := by rw [up1_p (by decide), up1_p (by decide)]
            refine r_12_lessen_99 F (by rw [e63]; exact e3) v64 ?_
            rw [e63, e4, cv, Nat.div_div_eq_div_mul, ← Nat.pow_succ, nI_1]
            refine ih (n + 1) _ (by omega) hyes ?_ ?_ ?_ ?_ (fun p p1 p2 p3 => by rw [up1_p p2, up1_p p1, up1_p p3]; exact fr p p1 p2 p3)
            · rw [up1_p (by decide), up1_s]; exact fun k hk => by rw [fill_in hk]; exact d64 k hk
            · rw [up1_p (by decide), up1_s, val_cg (r' := r64) 12 (fun k hk => fill_in hk)]; exact w64
            · rw [up1_s]; exact put_dig
            · rw [up1_s, put_val 12 (Nat.le_refl _)]; exact Nat.mod_eq_of_lt (Nat.lt_of_le_of_lt (Nat.div_le_self _ _) hL)
          have l2 : ∀ f2 i, i + f2 = 12 → WA X (mS I (up1 (up1 A1 64 r64) 62 (fillF (A1 62) i r64)) J) plM 0 0 72 [(0, .ref 0), (1, .int (nI v)), (2, .int (nI most)), (3, .int 1), (4, .int (nI n)), (5, .int (nI i))] [] := by
            intro f2
            induction f2 with
            | zero =>
              intro i hi
              obtain rfl : i = 12 := by omega
              have h12 : (12 : Int32) ≤ nI 12 := by decide
              exact r_12_lessen_72 F (fun _ => go99 _) (fun z => absurd h12 z) (fun z => absurd h12 z) (fun z => absurd h12 z)
            | succ f2 ih2 =>
              intro i hi
              have h12 : ¬ (12 : Int32) ≤ nI i := nI_ge (b := 12) (by omega) (by omega)
              refine r_12_lessen_72 F (fun z => absurd z h12) (fun _ => vp_in_nI (by omega) (by omega)) (fun _ => vp_in_nI (by omega) (by omega)) (fun _ => ?_)
              rw [nI_clamp (by omega), nI_1, up1_s, up1_p (show (64 : Nat) ≠ 62 by decide), up1_s, up1_up1, fill_s]
              exact ih2 (i + 1) (by omega)
          have := l2 12 0 rfl
          rw [fill_0, show up1 (up1 A1 64 r64) 62 (A1 62) = up1 A1 64 r64 from up1_at (by rw [up1_p (by decide)])] at this
          exact this
      have l1 : ∀ f2 i, i + f2 = 12 → WA X (mS I (up1 A1 64 (fillF (A1 64) i (A1 62))) J) plM 0 0 18 [(0, .ref 0), (1, .int (nI v)), (2, .int (nI most)), (3, .int 1), (4, .int (nI n)), (5, .int (nI i))] [] := by
        intro f2
        induction f2 with
        | zero =>
          intro i hi
          obtain rfl : i = 12 := by omega
          have h12 : (12 : Int32) ≤ nI 12 := by decide
          exact r_12_lessen_18 F (fun _ => go45 _) (fun z => absurd h12 z) (fun z => absurd h12 z) (fun z => absurd h12 z)
        | succ f2 ih2 =>
          intro i hi
          have h12 : ¬ (12 : Int32) ≤ nI i := nI_ge (b := 12) (by omega) (by omega)
          refine r_12_lessen_18 F (fun z => absurd z h12) (fun _ => vp_in_nI (by omega) (by omega)) (fun _ => vp_in_nI (by omega) (by omega)) (fun _ => ?_)
          rw [nI_clamp (by omega), nI_1, up1_s, up1_p (show (62 : Nat) ≠ 64 by decide), up1_up1, fill_s]
          exact ih2 (i + 1) (by omega)
      have := l1 12 0 rfl
      rw [fill_0, up1_id] at this
      exact this
  refine r_12_lessen_0 F ?_
  exact loop most 0 A (by omega) (by rw [Nat.pow_zero]; exact Nat.one_dvd _) d1 (by rw [v1, Nat.pow_zero, Nat.div_one]) d2 (by rw [v2, Nat.pow_zero, Nat.div_one]) (fun _ _ _ _ => rfl)
