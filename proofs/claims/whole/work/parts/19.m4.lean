def timesF (b : Nat → Int32) (o : Nat) : Nat → Int32
  | 0 => 2
  | i + 1 => if b (o + (19 + i)) ≤ 0 then timesF b o i else 3
/-- what a game that is over is worth, in CUBEs: off: it is over by bearing off; o: where the loser's board begins -/
def timesOf (b : Nat → Int32) (off : Int32) (o : Nat) : Int32 := if off = 0 then 1 else if b o = 0 then timesF b o 7 else 1
def endI (I : Nat → Nat → Int32) (who worth sc : Int32) : Nat → Nat → Int32 := if ¬ (I 0 21 < 2) ∧ I 0 33 = 0 ∧ sc = I 0 21 - 1 then up2 (up2 (up2 (up2 (up2 I 0 26 worth) 0 27 who) 0 20 (if I 0 21 ≤ 0 then 5 else if sc < I 0 21 then 5 else 6)) 0 33 1) 0 32 1 else up2 (up2 (up2 I 0 26 worth) 0 27 who) 0 20 (if I 0 21 ≤ 0 then 5 else if sc < I 0 21 then 5 else 6)

theorem r_12_gameOver_0 {X : Ctx} (F : Fx X cX12_gameOver RX12 6 1 0 0) {I A : Nat → Nat → Int32} {J : Nat → Nat → Int64} {x1 x2 : Int32}
    (e_1 : (x2 = 0) → WA X (mS I A J) plM 0 0 63 [(0, .ref 0), (1, .int x1), (2, .int x2), (3, .int (26 * (1 - x1))), (4, .int 1)] [])
    (o_2 : (¬ (x2 = 0)) → vp_in (26 * (1 - x1)) 52)
    (e_3 : (¬ (x2 = 0)) → (¬ (A 1 (26 * (1 - x1)).toNatClampNeg) = 0) → WA X (mS I A J) plM 0 0 63 [(0, .ref 0), (1, .int x1), (2, .int x2), (3, .int (26 * (1 - x1))), (4, .int 1)] [])
    (e_4 : (¬ (x2 = 0)) → ((A 1 (26 * (1 - x1)).toNatClampNeg) = 0) → WA X (mS I A J) plM 0 0 30 [(0, .ref 0), (1, .int x1), (2, .int x2), (3, .int (26 * (1 - x1))), (4, .int 2), (5, .int 19)] []) :
    WA X (mS I A J) plM 0 0 0 [(0, .ref 0), (1, .int x1), (2, .int x2)] [] := by
  refine a_bipush (v := 26) F dX12_gameOver_0 (by decide) ?_
  refine a_iconst (v := 1) F dX12_gameOver_2 (by decide) ?_
  refine a_iload_n F 1 dX12_gameOver_3 rfl rfl ?_
  refine a_isub F dX12_gameOver_4 ?_
  refine a_imul F dX12_gameOver_5 ?_
  refine a_istore_n F dX12_gameOver_6 rfl (by decide) rfl ?_
  refine a_iconst (v := 1) F dX12_gameOver_7 (by decide) ?_
  refine a_istore F dX12_gameOver_8 (by decide) rfl ?_
  refine a_iload_n F 4 dX12_gameOver_10 rfl rfl ?_
  refine a_if_eq (tgt := 63) F dX12_gameOver_11 (by decide) (fun (c_1 : x2 = 0) => ?_) (fun (c_1 : ¬ (x2 = 0)) => ?_)
  · refine a_sub [2, 3, 4, 1, 0] rfl ?_
    exact e_1 c_1
  · refine a_aload_n F 2 dX12_gameOver_14 rfl rfl ?_
    refine a_getr (b := 1) F fl_12_13 rfl (by decide) rfl rfl dX12_gameOver_15 ?_
    refine a_iload_n F 1 dX12_gameOver_18 rfl rfl ?_
    refine a_iald F (by decide) rfl (o_2 c_1) dX12_gameOver_19 ?_
    refine a_if_ne (tgt := 63) F dX12_gameOver_20 (by decide) (fun (c_2 : ¬ (A 1 (26 * (1 - x1)).toNatClampNeg) = 0) => ?_) (fun (c_2 : (A 1 (26 * (1 - x1)).toNatClampNeg) = 0) => ?_)
    · refine a_sub [2, 3, 4, 1, 0] rfl ?_
      exact e_3 c_1 c_2
    · refine a_iconst (v := 2) F dX12_gameOver_23 (by decide) ?_
      refine a_istore F dX12_gameOver_24 (by decide) rfl ?_
      refine a_bipush (v := 19) F dX12_gameOver_26 (by decide) ?_
      refine a_istore F dX12_gameOver_28 (by decide) rfl ?_
      refine a_sub [3, 4, 5, 2, 1, 0] rfl ?_
      exact e_4 c_1 c_2

theorem r_12_gameOver_30 {X : Ctx} (F : Fx X cX12_gameOver RX12 6 1 0 0) {I A : Nat → Nat → Int32} {J : Nat → Nat → Int64} {x1 x2 x3 x4 x5 : Int32}
    (e_1 : (26 ≤ x5) → WA X (mS I A J) plM 0 0 63 [(0, .ref 0), (1, .int x1), (2, .int x2), (3, .int x3), (4, .int x4)] [])
    (o_2 : (¬ (26 ≤ x5)) → vp_in (x3 + x5) 52)
    (e_3 : (¬ (26 ≤ x5)) → WA X (mS I A J) plM 0 0 30 [(0, .ref 0), (1, .int x1), (2, .int x2), (3, .int x3), (4, .int (if (A 1 (x3 + x5).toNatClampNeg) ≤ 0 then x4 else 3)), (5, .int (x5 + 1))] []) :
    WA X (mS I A J) plM 0 0 30 [(0, .ref 0), (1, .int x1), (2, .int x2), (3, .int x3), (4, .int x4), (5, .int x5)] [] := by
  refine a_iload F 5 dX12_gameOver_30 rfl ?_
  refine a_bipush (v := 26) F dX12_gameOver_32 (by decide) ?_
  refine a_icmp_ge (tgt := 63) F dX12_gameOver_34 (by decide) (fun (c_3 : 26 ≤ x5) => ?_) (fun (c_3 : ¬ (26 ≤ x5)) => ?_)
  · refine a_sub [0, 1, 2, 3, 4] rfl ?_
    exact e_1 c_3
  · refine a_aload_n F 0 dX12_gameOver_37 rfl rfl ?_
    refine a_getr (b := 1) F fl_12_13 rfl (by decide) rfl rfl dX12_gameOver_38 ?_
    refine a_iload_n F 3 dX12_gameOver_41 rfl rfl ?_
    refine a_iload F 5 dX12_gameOver_42 rfl ?_
    refine a_iadd F dX12_gameOver_44 ?_
    refine a_iald F (by decide) rfl (o_2 c_3) dX12_gameOver_45 ?_
    suffices k : ∀ z9 : Int32, z9 = (if (A 1 (x3 + x5).toNatClampNeg) ≤ 0 then x4 else 3) → WA X (mS I A J) plM 0 0 55 [(0, .ref 0), (1, .int x1), (2, .int x2), (3, .int x3), (4, .int x4), (5, .int x5)] [.int z9] by
      refine a_if_le (tgt := 53) F dX12_gameOver_46 (by decide) (fun (c_4 : (A 1 (x3 + x5).toNatClampNeg) ≤ 0) => ?_) (fun (c_4 : ¬ ((A 1 (x3 + x5).toNatClampNeg) ≤ 0)) => ?_)
      · refine a_iload F 4 dX12_gameOver_53 rfl ?_
        exact k _ (by rw [if_pos c_4] <;> rfl)
      · refine a_iconst (v := 3) F dX12_gameOver_49 (by decide) ?_
        refine a_goto (tgt := 55) F dX12_gameOver_50 (by decide) ?_
        exact k _ (by rw [if_neg c_4] <;> rfl)
    rintro _ rfl
    refine a_istore F dX12_gameOver_55 (by decide) rfl ?_
    refine a_iinc (v := x5 + 1) F 5 dX12_gameOver_57 rfl rfl (by decide) rfl ?_
    refine a_goto (tgt := 30) F dX12_gameOver_60 (by decide) ?_
    refine a_sub [2, 3, 4, 5, 1, 0] rfl ?_
    exact e_3 c_3

theorem r_12_gameOver_63 {X : Ctx} (F : Fx X cX12_gameOver RX12 6 1 0 0) {Φ : Option Value → HS → List Nat → Prop} (E : Ex X none 0 0 Φ) {I A : Nat → Nat → Int32} {J : Nat → Nat → Int64} {x1 x2 x3 x4 : Int32}
    (o_1 : vp_in x1 2)
    (o_2 : vp_in x1 2)
    (o_3 : (¬ ((I 0 21) ≤ 0)) → vp_in x1 2)
    (e_4 : ((I 0 21) < 2) → Φ none (mS (up2 (up2 (up2 I 0 26 ((I 0 22) * x4)) 0 27 x1) 0 20 (if (I 0 21) ≤ 0 then 5 else (if ((upd (A 30) x1.toNatClampNeg ((A 30 x1.toNatClampNeg) + ((I 0 22) * x4))) x1.toNatClampNeg) < (I 0 21) then 5 else 6))) (up1 A 30 (upd (A 30) x1.toNatClampNeg ((A 30 x1.toNatClampNeg) + ((I 0 22) * x4)))) J) plM)
    (e_5 : (¬ ((I 0 21) < 2)) → (¬ (I 0 33) = 0) → Φ none (mS (up2 (up2 (up2 I 0 26 ((I 0 22) * x4)) 0 27 x1) 0 20 (if (I 0 21) ≤ 0 then 5 else (if ((upd (A 30) x1.toNatClampNeg ((A 30 x1.toNatClampNeg) + ((I 0 22) * x4))) x1.toNatClampNeg) < (I 0 21) then 5 else 6))) (up1 A 30 (upd (A 30) x1.toNatClampNeg ((A 30 x1.toNatClampNeg) + ((I 0 22) * x4)))) J) plM)
    (o_6 : (¬ ((I 0 21) < 2)) → ((I 0 33) = 0) → vp_in x1 2)
    (e_7 : (¬ ((I 0 21) < 2)) → ((I 0 33) = 0) → (¬ ((upd (A 30) x1.toNatClampNeg ((A 30 x1.toNatClampNeg) + ((I 0 22) * x4))) x1.toNatClampNeg) = ((I 0 21) - 1)) → Φ none (mS (up2 (up2 (up2 I 0 26 ((I 0 22) * x4)) 0 27 x1) 0 20 (if (I 0 21) ≤ 0 then 5 else (if ((upd (A 30) x1.toNatClampNeg ((A 30 x1.toNatClampNeg) + ((I 0 22) * x4))) x1.toNatClampNeg) < (I 0 21) then 5 else 6))) (up1 A 30 (upd (A 30) x1.toNatClampNeg ((A 30 x1.toNatClampNeg) + ((I 0 22) * x4)))) J) plM)
    (e_8 : (¬ ((I 0 21) < 2)) → ((I 0 33) = 0) → (((upd (A 30) x1.toNatClampNeg ((A 30 x1.toNatClampNeg) + ((I 0 22) * x4))) x1.toNatClampNeg) = ((I 0 21) - 1)) → Φ none (mS (up2 (up2 (up2 (up2 (up2 I 0 26 ((I 0 22) * x4)) 0 27 x1) 0 20 (if (I 0 21) ≤ 0 then 5 else (if ((upd (A 30) x1.toNatClampNeg ((A 30 x1.toNatClampNeg) + ((I 0 22) * x4))) x1.toNatClampNeg) < (I 0 21) then 5 else 6))) 0 33 1) 0 32 1) (up1 A 30 (upd (A 30) x1.toNatClampNeg ((A 30 x1.toNatClampNeg) + ((I 0 22) * x4)))) J) plM) :
    WA X (mS I A J) plM 0 0 63 [(0, .ref 0), (1, .int x1), (2, .int x2), (3, .int x3), (4, .int x4)] [] := by
  refine a_aload_n F 0 dX12_gameOver_63 rfl rfl ?_
  refine a_aload_n F 0 dX12_gameOver_64 rfl rfl ?_
  refine a_geti F fl_12_45 rfl (by decide) rfl dX12_gameOver_65 ?_
  refine a_iload F 4 dX12_gameOver_68 rfl ?_
  refine a_imul F dX12_gameOver_70 ?_
  refine a_puti F fl_12_271 rfl rfl rfl rfl (by decide) rfl dX12_gameOver_71 ?_
  refine a_aload_n F 0 dX12_gameOver_74 rfl rfl ?_
  refine a_iload_n F 1 dX12_gameOver_75 rfl rfl ?_
  refine a_puti F fl_12_51 rfl rfl rfl rfl (by decide) rfl dX12_gameOver_76 ?_
  refine a_aload_n F 0 dX12_gameOver_79 rfl rfl ?_
  refine a_getr (b := 30) F fl_12_54 rfl (by decide) rfl rfl dX12_gameOver_80 ?_
  refine a_iload_n F 1 dX12_gameOver_83 rfl rfl ?_
  refine a_dup2 F dX12_gameOver_84 rfl rfl ?_
  refine a_iald F (by decide) rfl (o_1) dX12_gameOver_85 ?_
  refine a_aload_n F 0 dX12_gameOver_86 rfl rfl ?_
  refine a_geti F fl_12_271 rfl (by decide) rfl dX12_gameOver_87 ?_
  refine a_iadd F dX12_gameOver_90 ?_
  refine a_iast F (by decide) rfl (o_2) dX12_gameOver_91 ?_
  refine a_aload_n F 0 dX12_gameOver_92 rfl rfl ?_
  refine a_aload_n F 0 dX12_gameOver_93 rfl rfl ?_
  refine a_geti F fl_12_262 rfl (by decide) rfl dX12_gameOver_94 ?_
  suffices k : ∀ z9 : Int32, z9 = (if (I 0 21) ≤ 0 then 5 else (if ((upd (A 30) x1.toNatClampNeg ((A 30 x1.toNatClampNeg) + ((I 0 22) * x4))) x1.toNatClampNeg) < (I 0 21) then 5 else 6)) → WA X (mS (up2 (up2 I 0 26 ((I 0 22) * x4)) 0 27 x1) (up1 A 30 (upd (A 30) x1.toNatClampNeg ((A 30 x1.toNatClampNeg) + ((I 0 22) * x4)))) J) plM 0 0 119 [(0, .ref 0), (1, .int x1), (2, .int x2), (3, .int x3), (4, .int x4)] [.int z9, .ref 0] by
    refine a_if_le (tgt := 118) F dX12_gameOver_97 (by decide) (fun (c_5 : (I 0 21) ≤ 0) => ?_) (fun (c_5 : ¬ ((I 0 21) ≤ 0)) => ?_)
    · refine a_iconst (v := 5) F dX12_gameOver_118 (by decide) ?_
      exact k _ (by rw [if_pos c_5] <;> rfl)
    · refine a_aload_n F 0 dX12_gameOver_100 rfl rfl ?_
      refine a_getr (b := 30) F fl_12_54 rfl (by decide) rfl rfl dX12_gameOver_101 ?_
      refine a_iload_n F 1 dX12_gameOver_104 rfl rfl ?_
      refine a_iald F (by decide) rfl (o_3 c_5) dX12_gameOver_105 ?_
      refine a_aload_n F 0 dX12_gameOver_106 rfl rfl ?_
      refine a_geti F fl_12_262 rfl (by decide) rfl dX12_gameOver_107 ?_
      refine a_icmp_lt (tgt := 118) F dX12_gameOver_110 (by decide) (fun (c_6 : ((upd (A 30) x1.toNatClampNeg ((A 30 x1.toNatClampNeg) + ((I 0 22) * x4))) x1.toNatClampNeg) < (I 0 21)) => ?_) (fun (c_6 : ¬ (((upd (A 30) x1.toNatClampNeg ((A 30 x1.toNatClampNeg) + ((I 0 22) * x4))) x1.toNatClampNeg) < (I 0 21))) => ?_)
      · refine a_iconst (v := 5) F dX12_gameOver_118 (by decide) ?_
        exact k _ (by rw [if_neg c_5, if_pos c_6] <;> rfl)
      · refine a_bipush (v := 6) F dX12_gameOver_113 (by decide) ?_
        refine a_goto (tgt := 119) F dX12_gameOver_115 (by decide) ?_
        exact k _ (by rw [if_neg c_5, if_neg c_6] <;> rfl)
  rintro _ rfl
  refine a_puti F fl_12_227 rfl rfl rfl rfl (by decide) rfl dX12_gameOver_119 ?_
  refine a_aload_n F 0 dX12_gameOver_122 rfl rfl ?_
  refine a_geti F fl_12_262 rfl (by decide) rfl dX12_gameOver_123 ?_
  refine a_iconst (v := 2) F dX12_gameOver_126 (by decide) ?_
  refine a_icmp_lt (tgt := 162) F dX12_gameOver_127 (by decide) (fun (c_7 : (I 0 21) < 2) => ?_) (fun (c_7 : ¬ ((I 0 21) < 2)) => ?_)
  · exact a_vret F E dX12_gameOver_162 (Nat.le_refl 0) (Nat.le_refl 0) (e_4 c_7)
  · refine a_aload_n F 0 dX12_gameOver_130 rfl rfl ?_
    refine a_geti F fl_12_278 rfl (by decide) rfl dX12_gameOver_131 ?_
    refine a_if_ne (tgt := 162) F dX12_gameOver_134 (by decide) (fun (c_8 : ¬ (I 0 33) = 0) => ?_) (fun (c_8 : (I 0 33) = 0) => ?_)
    · exact a_vret F E dX12_gameOver_162 (Nat.le_refl 0) (Nat.le_refl 0) (e_5 c_7 c_8)
    · refine a_aload_n F 0 dX12_gameOver_137 rfl rfl ?_
      refine a_getr (b := 30) F fl_12_54 rfl (by decide) rfl rfl dX12_gameOver_138 ?_
      refine a_iload_n F 1 dX12_gameOver_141 rfl rfl ?_
      refine a_iald F (by decide) rfl (o_6 c_7 c_8) dX12_gameOver_142 ?_
      refine a_aload_n F 0 dX12_gameOver_143 rfl rfl ?_
      refine a_geti F fl_12_262 rfl (by decide) rfl dX12_gameOver_144 ?_
      refine a_iconst (v := 1) F dX12_gameOver_147 (by decide) ?_
      refine a_isub F dX12_gameOver_148 ?_
      refine a_icmp_ne (tgt := 162) F dX12_gameOver_149 (by decide) (fun (c_9 : ¬ ((upd (A 30) x1.toNatClampNeg ((A 30 x1.toNatClampNeg) + ((I 0 22) * x4))) x1.toNatClampNeg) = ((I 0 21) - 1)) => ?_) (fun (c_9 : ((upd (A 30) x1.toNatClampNeg ((A 30 x1.toNatClampNeg) + ((I 0 22) * x4))) x1.toNatClampNeg) = ((I 0 21) - 1)) => ?_)
      · exact a_vret F E dX12_gameOver_162 (Nat.le_refl 0) (Nat.le_refl 0) (e_7 c_7 c_8 c_9)
      · refine a_aload_n F 0 dX12_gameOver_152 rfl rfl ?_
        refine a_iconst (v := 1) F dX12_gameOver_153 (by decide) ?_
        refine a_puti F fl_12_278 rfl rfl (by decide +kernel) (by decide +kernel) (by decide) rfl dX12_gameOver_154 ?_
        refine a_aload_n F 0 dX12_gameOver_157 rfl rfl ?_
        refine a_iconst (v := 1) F dX12_gameOver_158 (by decide) ?_
        refine a_puti F fl_12_274 rfl rfl (by decide +kernel) (by decide +kernel) (by decide) rfl dX12_gameOver_159 ?_
        exact a_vret F E dX12_gameOver_162 (Nat.le_refl 0) (Nat.le_refl 0) (e_8 c_7 c_8 c_9)

set_option maxRecDepth 10000 in
theorem c_gameOver (l : Launch) (I A : Nat → Nat → Int32) (J : Nat → Nat → Int64) (w : Nat) (off : Int32) (hw : w ≤ 1) : Con l 1 yX12_gameOver cX12_gameOver 6 none [.ref 0, .int (nI w), .int off] (mS I A J) plM 0 0 (PM none (endI I (nI w) (I 0 22 * timesOf (A 1) off (26 * (1 - w))) (A 30 w + I 0 22 * timesOf (A 1) off (26 * (1 - w)))) (up1 A 30 (upd (A 30) w (A 30 w + I 0 22 * timesOf (A 1) off (26 * (1 - w))))) J) := by
  refine Con.of (by decide) (Nat.le_of_ble_eq_true rfl) (fun X hX9 hn9 F E => ?_)
  have eo : 26 * (1 - nI w) = nI (26 * (1 - w)) := by
    rcases (show w = 0 ∨ w = 1 by omega) with rfl | rfl <;> decide
  have ew : (nI w).toNatClampNeg = w := nI_clamp (by omega)
  have hin : vp_in (nI w) 2 := vp_in_nI (by omega) (by omega)
  have tail : ∀ t x3 : Int32, t = timesOf (A 1) off (26 * (1 - w)) → WA X (mS I A J) plM 0 0 63 [(0, .ref 0), (1, .int (nI w)), (2, .int off), (3, .int x3), (4, .int t)] [] := by
    intro t x3 ht
    have us : ∀ v : Int32, upd (A 30) w v w = v := fun v => by simp [upd]
    refine r_12_gameOver_63 F E ?_ ?_ ?_ ?_ ?_ ?_ ?_ ?_ <;> (clear F E hn9 hX9) <;> intros <;> first | assumption | (rw [← ht]; simp_all [PM, endI]; done) | (rw [← ht]; simp_all [PM, endI]; grind)
  refine r_12_gameOver_0 F ?_ ?_ ?_ ?_
  · intro h; exact tail 1 _ (by simp [timesOf, h])
  · intro h; rw [eo]; exact vp_in_nI (by omega) (by omega)
  · intro h h2; rw [eo, nI_clamp (by omega)] at h2; exact tail 1 _ (by simp [timesOf, h, h2])
  · intro h h2
    rw [eo, nI_clamp (by omega)] at h2
    rw [eo]
    have loop : ∀ n i, i + n = 7 → WA X (mS I A J) plM 0 0 30 [(0, .ref 0), (1, .int (nI w)), (2, .int off), (3, .int (nI (26 * (1 - w)))), (4, .int (timesF (A 1) (26 * (1 - w)) i)), (5, .int (nI (19 + i)))] [] := by
      intro n
      induction n with
      | zero =>
        intro i hi
        obtain rfl : i = 7 := by omega
        refine r_12_gameOver_30 F (fun _ => tail _ _ (by simp [timesOf, h, h2])) (fun h => absurd (nI_le (a := 26) (b := 26) (by omega) (by omega)) h) (fun h => absurd (nI_le (a := 26) (b := 26) (by omega) (by omega)) h)
      | succ n ih =>
        intro i hi
        refine r_12_gameOver_30 F (fun h => absurd h (nI_ge (b := 26) (by omega) (by omega))) (fun _ => ?_) (fun _ => ?_)
        · rw [nI_add]; exact vp_in_nI (by omega) (by omega)
        · rw [nI_add, nI_clamp (by omega), nI_1]
          exact ih (i + 1) (by omega)
    exact loop 7 0 rfl
