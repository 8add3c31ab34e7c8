theorem c_pipsI (l : Launch) (I A : Nat → Nat → Int32) (J : Nat → Nat → Int64) (a : Int32) (h : a = 0 ∨ a = 1) : Con l 1 yX12_pips cX12_pips 4 (some .int) [.ref 0, .int a] (mS I A J) plM 0 0 (PM (some (.int (pipsF (A 1) a.toNatClampNeg 25))) I A J) := by
  rcases h with rfl | rfl
  · exact c_pips l I A J 0 (by omega)
  · exact c_pips l I A J 1 (by omega)
def askF (I A : Nat → Nat → Int32) (w : Int32) : Int32 := if w = 0 then I 0 2 else if w = 1 ∨ w = 2 then pipsF (A 1) (w - 1).toNatClampNeg 25 else if w = 3 then (if A 1 0 = 15 ∨ A 1 26 = 15 then 1 else 0) else if w = 4 then I 0 35 else if w = 5 then I 0 61 else if w = 6 then I 0 16 else I 0 55
theorem pips_up2 (I : Nat → Nat → Int32) : True := trivial

theorem r_12_ask_0 {X : Ctx} (F : Fx X cX12_ask RX12 2 2 0 0) {Φ : Option Value → HS → List Nat → Prop} (E : Ex X (some .int) 0 0 Φ) {I A : Nat → Nat → Int32} {J : Nat → Nat → Int64} {x1 : Int32}
    (e_1 : (x1 < 0) → Φ (some (.int 0)) (mS (up2 (up2 I 0 0 0) 0 0 (1 : Int32)) A J) plM)
    (e_2 : (¬ (x1 < 0)) → (7 < x1) → Φ (some (.int 0)) (mS (up2 (up2 I 0 0 0) 0 0 (1 : Int32)) A J) plM)
    (e_3 : (¬ (x1 < 0)) → (¬ (7 < x1)) → (x1 = 0) → Φ (some (.int (I 0 2))) (mS (up2 I 0 0 0) A J) plM)
    (o_4 : (¬ (x1 < 0)) → (¬ (7 < x1)) → (¬ x1 = 0) → (x1 = 1) → (x1 - 1) = 0 ∨ (x1 - 1) = 1)
    (e_5 : (¬ (x1 < 0)) → (¬ (7 < x1)) → (¬ x1 = 0) → (x1 = 1) → Φ (some (.int (pipsF (A 1) (x1 - 1).toNatClampNeg 25))) (mS (up2 I 0 0 0) A J) plM)
    (o_6 : (¬ (x1 < 0)) → (¬ (7 < x1)) → (¬ x1 = 0) → (¬ x1 = 1) → (x1 = 2) → (x1 - 1) = 0 ∨ (x1 - 1) = 1)
    (e_7 : (¬ (x1 < 0)) → (¬ (7 < x1)) → (¬ x1 = 0) → (¬ x1 = 1) → (x1 = 2) → Φ (some (.int (pipsF (A 1) (x1 - 1).toNatClampNeg 25))) (mS (up2 I 0 0 0) A J) plM)
    (e_8 : (¬ (x1 < 0)) → (¬ (7 < x1)) → (¬ x1 = 0) → (¬ x1 = 1) → (¬ x1 = 2) → (x1 = 3) → ((A 1) 0 = 15 ∨ (A 1) 26 = 15) → Φ (some (.int 1)) (mS (up2 I 0 0 0) A J) plM)
    (e_9 : (¬ (x1 < 0)) → (¬ (7 < x1)) → (¬ x1 = 0) → (¬ x1 = 1) → (¬ x1 = 2) → (x1 = 3) → (¬ ((A 1) 0 = 15 ∨ (A 1) 26 = 15)) → Φ (some (.int 0)) (mS (up2 I 0 0 0) A J) plM)
    (e_10 : (¬ (x1 < 0)) → (¬ (7 < x1)) → (¬ x1 = 0) → (¬ x1 = 1) → (¬ x1 = 2) → (¬ x1 = 3) → (x1 = 4) → Φ (some (.int (I 0 35))) (mS (up2 I 0 0 0) A J) plM)
    (e_11 : (¬ (x1 < 0)) → (¬ (7 < x1)) → (¬ x1 = 0) → (¬ x1 = 1) → (¬ x1 = 2) → (¬ x1 = 3) → (¬ x1 = 4) → (x1 = 5) → Φ (some (.int (I 0 61))) (mS (up2 I 0 0 0) A J) plM)
    (e_12 : (¬ (x1 < 0)) → (¬ (7 < x1)) → (¬ x1 = 0) → (¬ x1 = 1) → (¬ x1 = 2) → (¬ x1 = 3) → (¬ x1 = 4) → (¬ x1 = 5) → (x1 = 6) → Φ (some (.int (I 0 16))) (mS (up2 I 0 0 0) A J) plM)
    (e_13 : (¬ (x1 < 0)) → (¬ (7 < x1)) → (¬ x1 = 0) → (¬ x1 = 1) → (¬ x1 = 2) → (¬ x1 = 3) → (¬ x1 = 4) → (¬ x1 = 5) → (¬ x1 = 6) → Φ (some (.int (I 0 55))) (mS (up2 I 0 0 0) A J) plM) :
    WA X (mS I A J) plM 0 0 0 [(0, .ref 0), (1, .int x1)] [] := by
  refine a_aload_n F 0 dX12_ask_0 rfl rfl ?_
  refine a_iconst (v := 0) F dX12_ask_1 (by decide) ?_
  refine a_puti F fl_12_1 rfl rfl rfl rfl (by decide) rfl dX12_ask_2 ?_
  refine a_aload_n F 0 dX12_ask_5 rfl rfl ?_
  refine a_iload_n F 1 dX12_ask_6 rfl rfl ?_
  refine a_if_lt (tgt := 20) F dX12_ask_7 (by decide) (fun (c_1 : x1 < 0) => ?_) (fun (c_1 : ¬ (x1 < 0)) => ?_)
  · refine a_iconst (v := 0) F dX12_ask_20 (by decide) ?_
    refine a_iconst (v := 1) F dX12_ask_21 (by decide) ?_
    refine a_callV (b := 0) (As := [.int 0, .int 1]) (st := []) (ci := 12) F (c_may0 (xl X) (up2 I 0 0 0) A J (1 : Int32) (by decide) rfl) ml_12_155 im_yX12_may se_yX12_may (by decide) (by decide) rfl (by decide) rfl rfl dX12_ask_22 (by decide) (Nat.le_refl 0) (Nat.le_refl 0) (hl_r (by decide) (hl_i hl_nil)) hs_nil ?_
    rintro _ _ _ ⟨rfl, rfl, rfl⟩ _
    show WA X (mS (up2 (up2 I 0 0 0) 0 0 (1 : Int32)) A J) plM 0 0 25 [(0, .ref 0), (1, .int x1)] [.int 0]
    refine a_if_ne (tgt := 30) F dX12_ask_25 (by decide) (fun (c_2 : ¬ (0 : Int32) = 0) => ?_) (fun (c_2 : (0 : Int32) = 0) => ?_)
    · exact absurd c_2 (by decide)
    · refine a_iconst (v := 0) F dX12_ask_28 (by decide) ?_
      exact a_iret F E dX12_ask_29 (Nat.le_refl 0) (Nat.le_refl 0) (e_1 c_1)
  · refine a_iload_n F 1 dX12_ask_10 rfl rfl ?_
    refine a_bipush (v := 7) F dX12_ask_11 (by decide) ?_
    refine a_icmp_gt (tgt := 20) F dX12_ask_13 (by decide) (fun (c_3 : 7 < x1) => ?_) (fun (c_3 : ¬ (7 < x1)) => ?_)
    · refine a_iconst (v := 0) F dX12_ask_20 (by decide) ?_
      refine a_iconst (v := 1) F dX12_ask_21 (by decide) ?_
      refine a_callV (b := 0) (As := [.int 0, .int 1]) (st := []) (ci := 12) F (c_may0 (xl X) (up2 I 0 0 0) A J (1 : Int32) (by decide) rfl) ml_12_155 im_yX12_may se_yX12_may (by decide) (by decide) rfl (by decide) rfl rfl dX12_ask_22 (by decide) (Nat.le_refl 0) (Nat.le_refl 0) (hl_r (by decide) (hl_i hl_nil)) hs_nil ?_
      rintro _ _ _ ⟨rfl, rfl, rfl⟩ _
      show WA X (mS (up2 (up2 I 0 0 0) 0 0 (1 : Int32)) A J) plM 0 0 25 [(0, .ref 0), (1, .int x1)] [.int 0]
      refine a_if_ne (tgt := 30) F dX12_ask_25 (by decide) (fun (c_4 : ¬ (0 : Int32) = 0) => ?_) (fun (c_4 : (0 : Int32) = 0) => ?_)
      · exact absurd c_4 (by decide)
      · refine a_iconst (v := 0) F dX12_ask_28 (by decide) ?_
        exact a_iret F E dX12_ask_29 (Nat.le_refl 0) (Nat.le_refl 0) (e_2 c_1 c_3)
    · refine a_iconst (v := 1) F dX12_ask_16 (by decide) ?_
      refine a_goto (tgt := 21) F dX12_ask_17 (by decide) ?_
      refine a_iconst (v := 1) F dX12_ask_21 (by decide) ?_
      refine a_callV (b := 0) (As := [.int 1, .int 1]) (st := []) (ci := 12) F (c_may1 (xl X) (up2 I 0 0 0) A J (1 : Int32) (by decide) rfl) ml_12_155 im_yX12_may se_yX12_may (by decide) (by decide) rfl (by decide) rfl rfl dX12_ask_22 (by decide) (Nat.le_refl 0) (Nat.le_refl 0) (hl_r (by decide) (hl_i hl_nil)) hs_nil ?_
      rintro _ _ _ ⟨rfl, rfl, rfl⟩ _
      show WA X (mS (up2 I 0 0 0) A J) plM 0 0 25 [(0, .ref 0), (1, .int x1)] [.int 1]
      refine a_if_ne (tgt := 30) F dX12_ask_25 (by decide) (fun (c_5 : ¬ (1 : Int32) = 0) => ?_) (fun (c_5 : (1 : Int32) = 0) => ?_)
      · refine a_iload_n F 1 dX12_ask_30 rfl rfl ?_
        by_cases c_6 : x1 = 0
        · refine a_tableIn (off := 41) (tgt := 72) F dX12_ask_31 (by rw [c_6]; decide) (by rw [c_6]; decide) (by rw [c_6]; rfl) (by decide) ?_
          refine a_aload_n F 0 dX12_ask_72 rfl rfl ?_
          refine a_geti F fl_12_149 rfl (by decide) rfl dX12_ask_73 ?_
          exact a_iret F E dX12_ask_76 (Nat.le_refl 0) (Nat.le_refl 0) (e_3 c_1 c_3 c_6)
        by_cases c_7 : x1 = 1
        · refine a_tableIn (off := 46) (tgt := 77) F dX12_ask_31 (by rw [c_7]; decide) (by rw [c_7]; decide) (by rw [c_7]; rfl) (by decide) ?_
          refine a_aload_n F 0 dX12_ask_77 rfl rfl ?_
          refine a_iload_n F 1 dX12_ask_78 rfl rfl ?_
          refine a_iconst (v := 1) F dX12_ask_79 (by decide) ?_
          refine a_isub F dX12_ask_80 ?_
          refine a_callV (b := 0) (As := [.int (x1 - 1)]) (st := []) (ci := 12) F (c_pipsI (xl X) (up2 I 0 0 0) A J (x1 - 1) (o_4 c_1 c_3 c_6 c_7)) ml_12_159 im_yX12_pips se_yX12_pips (by decide) (by decide) rfl (by decide) rfl rfl dX12_ask_81 (by decide) (Nat.le_refl 0) (Nat.le_refl 0) (hl_r (by decide) (hl_i hl_nil)) hs_nil ?_
          rintro _ _ _ ⟨rfl, rfl, rfl⟩ _
          show WA X (mS (up2 I 0 0 0) A J) plM 0 0 84 [(0, .ref 0), (1, .int x1)] [.int (pipsF (A 1) (x1 - 1).toNatClampNeg 25)]
          exact a_iret F E dX12_ask_84 (Nat.le_refl 0) (Nat.le_refl 0) (e_5 c_1 c_3 c_6 c_7)
        by_cases c_8 : x1 = 2
        · refine a_tableIn (off := 46) (tgt := 77) F dX12_ask_31 (by rw [c_8]; decide) (by rw [c_8]; decide) (by rw [c_8]; rfl) (by decide) ?_
          refine a_aload_n F 0 dX12_ask_77 rfl rfl ?_
          refine a_iload_n F 1 dX12_ask_78 rfl rfl ?_
          refine a_iconst (v := 1) F dX12_ask_79 (by decide) ?_
          refine a_isub F dX12_ask_80 ?_
          refine a_callV (b := 0) (As := [.int (x1 - 1)]) (st := []) (ci := 12) F (c_pipsI (xl X) (up2 I 0 0 0) A J (x1 - 1) (o_6 c_1 c_3 c_6 c_7 c_8)) ml_12_159 im_yX12_pips se_yX12_pips (by decide) (by decide) rfl (by decide) rfl rfl dX12_ask_81 (by decide) (Nat.le_refl 0) (Nat.le_refl 0) (hl_r (by decide) (hl_i hl_nil)) hs_nil ?_
          rintro _ _ _ ⟨rfl, rfl, rfl⟩ _
          show WA X (mS (up2 I 0 0 0) A J) plM 0 0 84 [(0, .ref 0), (1, .int x1)] [.int (pipsF (A 1) (x1 - 1).toNatClampNeg 25)]
          exact a_iret F E dX12_ask_84 (Nat.le_refl 0) (Nat.le_refl 0) (e_7 c_1 c_3 c_6 c_7 c_8)
        by_cases c_9 : x1 = 3
        · refine a_tableIn (off := 54) (tgt := 85) F dX12_ask_31 (by rw [c_9]; decide) (by rw [c_9]; decide) (by rw [c_9]; rfl) (by decide) ?_
          refine a_aload_n F 0 dX12_ask_85 rfl rfl ?_
          refine a_callV (b := 0) (As := []) (st := []) (ci := 12) F (c_isOver (xl X) (up2 I 0 0 0) A J ) ml_12_163 im_yX12_isOver se_yX12_isOver (by decide) (by decide) rfl (by decide) rfl rfl dX12_ask_86 (by decide) (Nat.le_refl 0) (Nat.le_refl 0) (hl_r (by decide) (hl_i hl_nil)) hs_nil ?_
          rintro _ _ _ ⟨rfl, rfl, rfl⟩ _
          show WA X (mS (up2 I 0 0 0) A J) plM 0 0 89 [(0, .ref 0), (1, .int x1)] [.int (if (A 1) 0 = 15 ∨ (A 1) 26 = 15 then 1 else 0)]
          refine a_ite (fun (c_10 : (A 1) 0 = 15 ∨ (A 1) 26 = 15) => ?_) (fun (c_10 : ¬ ((A 1) 0 = 15 ∨ (A 1) 26 = 15)) => ?_)
          · refine a_if_eq (tgt := 96) F dX12_ask_89 (by decide) (fun (c_11 : (1 : Int32) = 0) => ?_) (fun (c_11 : ¬ ((1 : Int32) = 0)) => ?_)
            · exact absurd c_11 (by decide)
            · refine a_iconst (v := 1) F dX12_ask_92 (by decide) ?_
              refine a_goto (tgt := 97) F dX12_ask_93 (by decide) ?_
              exact a_iret F E dX12_ask_97 (Nat.le_refl 0) (Nat.le_refl 0) (e_8 c_1 c_3 c_6 c_7 c_8 c_9 c_10)
          · refine a_if_eq (tgt := 96) F dX12_ask_89 (by decide) (fun (c_12 : (0 : Int32) = 0) => ?_) (fun (c_12 : ¬ ((0 : Int32) = 0)) => ?_)
            · refine a_iconst (v := 0) F dX12_ask_96 (by decide) ?_
              exact a_iret F E dX12_ask_97 (Nat.le_refl 0) (Nat.le_refl 0) (e_9 c_1 c_3 c_6 c_7 c_8 c_9 c_10)
            · exact absurd c_12 (by decide)
        by_cases c_13 : x1 = 4
        · refine a_tableIn (off := 67) (tgt := 98) F dX12_ask_31 (by rw [c_13]; decide) (by rw [c_13]; decide) (by rw [c_13]; rfl) (by decide) ?_
          refine a_aload_n F 0 dX12_ask_98 rfl rfl ?_
          refine a_geti F fl_12_167 rfl (by decide) rfl dX12_ask_99 ?_
          exact a_iret F E dX12_ask_102 (Nat.le_refl 0) (Nat.le_refl 0) (e_10 c_1 c_3 c_6 c_7 c_8 c_9 c_13)
        by_cases c_14 : x1 = 5
        · refine a_tableIn (off := 72) (tgt := 103) F dX12_ask_31 (by rw [c_14]; decide) (by rw [c_14]; decide) (by rw [c_14]; rfl) (by decide) ?_
          refine a_aload_n F 0 dX12_ask_103 rfl rfl ?_
          refine a_geti F fl_12_170 rfl (by decide) rfl dX12_ask_104 ?_
          exact a_iret F E dX12_ask_107 (Nat.le_refl 0) (Nat.le_refl 0) (e_11 c_1 c_3 c_6 c_7 c_8 c_9 c_13 c_14)
        by_cases c_15 : x1 = 6
        · refine a_tableIn (off := 77) (tgt := 108) F dX12_ask_31 (by rw [c_15]; decide) (by rw [c_15]; decide) (by rw [c_15]; rfl) (by decide) ?_
          refine a_aload_n F 0 dX12_ask_108 rfl rfl ?_
          refine a_geti F fl_12_152 rfl (by decide) rfl dX12_ask_109 ?_
          exact a_iret F E dX12_ask_112 (Nat.le_refl 0) (Nat.le_refl 0) (e_12 c_1 c_3 c_6 c_7 c_8 c_9 c_13 c_14 c_15)
        refine a_tableOut (tgt := 113) F dX12_ask_31 (by have h0 := lv_neT (a := 0) c_6 (by decide); have h1 := lv_neT (a := 1) c_7 (by decide); have h2 := lv_neT (a := 2) c_8 (by decide); have h3 := lv_neT (a := 3) c_9 (by decide); have h4 := lv_neT (a := 4) c_13 (by decide); have h5 := lv_neT (a := 5) c_14 (by decide); have h6 := lv_neT (a := 6) c_15 (by decide); omega) (by decide) ?_
        refine a_aload_n F 0 dX12_ask_113 rfl rfl ?_
        refine a_geti F fl_12_173 rfl (by decide) rfl dX12_ask_114 ?_
        exact a_iret F E dX12_ask_117 (Nat.le_refl 0) (Nat.le_refl 0) (e_13 c_1 c_3 c_6 c_7 c_8 c_9 c_13 c_14 c_15)
      · exact absurd c_5 (by decide)

set_option maxRecDepth 10000 in
theorem c_ask (l : Launch) (I A : Nat → Nat → Int32) (J : Nat → Nat → Int64) (w : Int32) : Con l 2 yX12_ask cX12_ask 2 (some .int) [.ref 0, .int w] (mS I A J) plM 0 0 (PM (some (.int (if 0 ≤ w ∧ w ≤ 7 then askF I A w else 0))) (up2 I 0 0 (if 0 ≤ w ∧ w ≤ 7 then 0 else 1)) A J) := by
  refine Con.of (by decide) (Nat.le_of_ble_eq_true rfl) (fun X hX9 hn9 F E => ?_)
  refine r_12_ask_0 F E ?_ ?_ ?_ ?_ ?_ ?_ ?_ ?_ ?_ ?_ ?_ ?_ ?_ <;> (clear F E hn9 hX9; (try clear X); intros <;> first | (left; grind) | (right; grind) | (simp_all [PM, up2_up2, askF]; done) | (simp_all [PM, up2_up2, askF]; grind))

theorem r_12_fault_0 {X : Ctx} (F : Fx X cX12_fault RX12 1 2 0 0) {Φ : Option Value → HS → List Nat → Prop} (E : Ex X (some .int) 0 0 Φ) {I A : Nat → Nat → Int32} {J : Nat → Nat → Int64}
    (e_1 : Φ (some (.int (I 0 42))) (mS (up2 I 0 0 0) A J) plM) :
    WA X (mS I A J) plM 0 0 0 [(0, .ref 0)] [] := by
  refine a_aload_n F 0 dX12_fault_0 rfl rfl ?_
  refine a_iconst (v := 0) F dX12_fault_1 (by decide) ?_
  refine a_puti F fl_12_1 rfl rfl rfl rfl (by decide) rfl dX12_fault_2 ?_
  refine a_aload_n F 0 dX12_fault_5 rfl rfl ?_
  refine a_geti F fl_12_60 rfl (by decide) rfl dX12_fault_6 ?_
  exact a_iret F E dX12_fault_9 (Nat.le_refl 0) (Nat.le_refl 0) (e_1)

set_option maxRecDepth 10000 in
theorem c_fault (l : Launch) (I A : Nat → Nat → Int32) (J : Nat → Nat → Int64) : Con l 2 yX12_fault cX12_fault 1 (some .int) [.ref 0] (mS I A J) plM 0 0 (PM (some (.int (I 0 42))) (up2 I 0 0 0) A J) := by
  refine Con.of (by decide) (Nat.le_of_ble_eq_true rfl) (fun X hX9 hn9 F E => ?_)
  refine r_12_fault_0 F E ?_ <;> (clear F E hn9 hX9; (try clear X); intros <;> first | assumption | (simp_all [PM, up2_up2]; done) | (simp_all [PM, up2_up2]; grind))

theorem r_12_octet_0 {X : Ctx} (F : Fx X cX12_octet RX12 2 2 0 0) {Φ : Option Value → HS → List Nat → Prop} (E : Ex X (some .int) 0 0 Φ) {I A : Nat → Nat → Int32} {J : Nat → Nat → Int64} {x1 : Int32}
    (e_1 : (x1 < 0) → Φ (some (.int (-1))) (mS (up2 I 0 0 0) A J) plM)
    (e_2 : (¬ (x1 < 0)) → ((I 0 61) ≤ x1) → Φ (some (.int (-1))) (mS (up2 I 0 0 0) A J) plM)
    (o_3 : (¬ (x1 < 0)) → (¬ ((I 0 61) ≤ x1)) → vp_in x1 400)
    (e_4 : (¬ (x1 < 0)) → (¬ ((I 0 61) ≤ x1)) → Φ (some (.int (A 59 x1.toNatClampNeg))) (mS (up2 I 0 0 0) A J) plM) :
    WA X (mS I A J) plM 0 0 0 [(0, .ref 0), (1, .int x1)] [] := by
  refine a_aload_n F 0 dX12_octet_0 rfl rfl ?_
  refine a_iconst (v := 0) F dX12_octet_1 (by decide) ?_
  refine a_puti F fl_12_1 rfl rfl rfl rfl (by decide) rfl dX12_octet_2 ?_
  refine a_iload_n F 1 dX12_octet_5 rfl rfl ?_
  refine a_if_lt (tgt := 26) F dX12_octet_6 (by decide) (fun (c_1 : x1 < 0) => ?_) (fun (c_1 : ¬ (x1 < 0)) => ?_)
  · refine a_iconst (v := (-1)) F dX12_octet_26 (by decide) ?_
    exact a_iret F E dX12_octet_27 (Nat.le_refl 0) (Nat.le_refl 0) (e_1 c_1)
  · refine a_iload_n F 1 dX12_octet_9 rfl rfl ?_
    refine a_aload_n F 0 dX12_octet_10 rfl rfl ?_
    refine a_geti F fl_12_170 rfl (by decide) rfl dX12_octet_11 ?_
    refine a_icmp_ge (tgt := 26) F dX12_octet_14 (by decide) (fun (c_2 : (I 0 61) ≤ x1) => ?_) (fun (c_2 : ¬ ((I 0 61) ≤ x1)) => ?_)
    · refine a_iconst (v := (-1)) F dX12_octet_26 (by decide) ?_
      exact a_iret F E dX12_octet_27 (Nat.le_refl 0) (Nat.le_refl 0) (e_2 c_1 c_2)
    · refine a_aload_n F 0 dX12_octet_17 rfl rfl ?_
      refine a_getr (b := 59) F fl_12_103 rfl (by decide) rfl rfl dX12_octet_18 ?_
      refine a_iload_n F 1 dX12_octet_21 rfl rfl ?_
      refine a_iald F (by decide) rfl (o_3 c_1 c_2) dX12_octet_22 ?_
      refine a_goto (tgt := 27) F dX12_octet_23 (by decide) ?_
      exact a_iret F E dX12_octet_27 (Nat.le_refl 0) (Nat.le_refl 0) (e_4 c_1 c_2)

set_option maxRecDepth 10000 in
theorem c_octet (l : Launch) (I A : Nat → Nat → Int32) (J : Nat → Nat → Int64) (k : Int32) (h0 : I 0 61 ≤ 400) : Con l 2 yX12_octet cX12_octet 2 (some .int) [.ref 0, .int k] (mS I A J) plM 0 0 (PM (some (.int (if 0 ≤ k ∧ k < I 0 61 then A 59 k.toNatClampNeg else -1))) (up2 I 0 0 0) A J) := by
  refine Con.of (by decide) (Nat.le_of_ble_eq_true rfl) (fun X hX9 hn9 F E => ?_)
  refine r_12_octet_0 F E ?_ ?_ ?_ ?_ <;> (clear F E hn9 hX9; (try clear X); intros <;> first | exact in_i (N := 400) rfl (by grind) | (simp_all [PM, up2_up2]; done) | (simp_all [PM, up2_up2]; grind))
