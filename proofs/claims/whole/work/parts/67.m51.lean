theorem r_12_follow_0 {X : Ctx} (F : Fx X cX12_follow RX12 14 3 0 0) {I A : Nat → Nat → Int32} {J : Nat → Nat → Int64} {x1 x2 : Int32} {q3 : Nat} (hp_q3 : q3 ∈ plM) (hk_q3 : kM q3 = 14)
    (e_1 : WA X (mS I A J) plM 0 0 3 [(0, .ref 0), (1, .int x1), (2, .int x2), (3, .ref q3), (4, .int 0)] []) :
    WA X (mS I A J) plM 0 0 0 [(0, .ref 0), (1, .int x1), (2, .int x2), (3, .ref q3)] [] := by
  refine a_iconst (v := 0) F dX12_follow_0 (by decide) ?_
  refine a_istore F dX12_follow_1 (by decide) rfl ?_
  refine a_sub [1, 2, 3, 4, 0] rfl ?_
  exact e_1

theorem r_12_follow_3 {X : Ctx} (F : Fx X cX12_follow RX12 14 3 0 0) {I A : Nat → Nat → Int32} {J : Nat → Nat → Int64} {x1 x2 x4 : Int32} {q3 : Nat} (hp_q3 : q3 ∈ plM) (hk_q3 : kM q3 = 14)
    (o_1 : (54264 ≤ x4) → stdI x1)
    (o_2 : (54264 ≤ x4) → chT (A 52))
    (o_3 : (54264 ≤ x4) → vp_in (nmI x1) 54264)
    (o_4 : (54264 ≤ x4) → vp_in 0 54264)
    (o_5 : (54264 ≤ x4) → (¬ x1 = 0) → vp_in 0 (nM q3))
    (e_6 : (54264 ≤ x4) → (¬ x1 = 0) → WA X (mS I (up1 A 69 (upd (A 69) 0 (nmI x1))) (up1 (up1 J 65 (vp_updL (J 65) (nmI x1).toNatClampNeg 1)) q3 (vp_updL ((up1 J 65 (vp_updL (J 65) (nmI x1).toNatClampNeg 1)) q3) 0 0))) plM 0 0 65 [(0, .ref 0), (1, .int x1), (2, .int x2), (3, .ref q3), (4, .int (nmI x1)), (5, .int 1), (6, .int 1)] [])
    (o_7 : (54264 ≤ x4) → (x1 = 0) → vp_in 0 (nM q3))
    (e_8 : (54264 ≤ x4) → (x1 = 0) → WA X (mS I (up1 A 69 (upd (A 69) 0 (nmI x1))) (up1 (up1 J 65 (vp_updL (J 65) (nmI x1).toNatClampNeg 1)) q3 (vp_updL ((up1 J 65 (vp_updL (J 65) (nmI x1).toNatClampNeg 1)) q3) 0 1))) plM 0 0 65 [(0, .ref 0), (1, .int x1), (2, .int x2), (3, .ref q3), (4, .int (nmI x1)), (5, .int 1), (6, .int 1)] [])
    (o_9 : (¬ (54264 ≤ x4)) → vp_in x4 54264)
    (e_10 : (¬ (54264 ≤ x4)) → WA X (mS I A (up1 J 65 (vp_updL (J 65) x4.toNatClampNeg 0))) plM 0 0 3 [(0, .ref 0), (1, .int x1), (2, .int x2), (3, .ref q3), (4, .int (x4 + 1))] []) :
    WA X (mS I A J) plM 0 0 3 [(0, .ref 0), (1, .int x1), (2, .int x2), (3, .ref q3), (4, .int x4)] [] := by
  refine a_iload F 4 dX12_follow_3 rfl ?_
  refine a_ldc F kc_12_87 dX12_follow_5 ?_
  refine a_icmp_ge (tgt := 24) F dX12_follow_7 (by decide) (fun (c_1 : 54264 ≤ x4) => ?_) (fun (c_1 : ¬ (54264 ≤ x4)) => ?_)
  · refine a_aload_n F 0 dX12_follow_24 rfl rfl ?_
    refine a_iload_n F 1 dX12_follow_25 rfl rfl ?_
    refine a_callV (b := 0) (As := [.int x1]) (st := []) (ci := 12) F (c_numberOfI (xl X) I A J x1 (o_1 c_1) (o_2 c_1)) ml_12_375 im_yX12_numberOf se_yX12_numberOf (by decide) (by decide) rfl (by decide) rfl rfl dX12_follow_26 (by decide) (Nat.le_refl 0) (Nat.le_refl 0) (hl_r (by decide) (hl_i (hl_i (hl_r (hp_q3) (hl_i hl_nil))))) hs_nil ?_
    rintro _ _ _ ⟨rfl, rfl, rfl⟩ _
    show WA X (mS I A J) plM 0 0 29 [(0, .ref 0), (1, .int x1), (2, .int x2), (3, .ref q3), (4, .int x4)] [.int (nmI x1)]
    refine a_istore F dX12_follow_29 (by decide) rfl ?_
    refine a_aload_n F 1 dX12_follow_31 rfl rfl ?_
    refine a_getr (b := 65) F fl_12_118 rfl (by decide) rfl rfl dX12_follow_32 ?_
    refine a_iload F 0 dX12_follow_35 rfl ?_
    refine a_lconst (v := 1) F dX12_follow_37 (by decide) ?_
    refine a_last F (by decide) rfl (o_3 c_1) dX12_follow_38 ?_
    refine a_aload_n F 1 dX12_follow_39 rfl rfl ?_
    refine a_getr (b := 69) F fl_12_131 rfl (by decide) rfl rfl dX12_follow_40 ?_
    refine a_iconst (v := 0) F dX12_follow_43 (by decide) ?_
    refine a_iload F 0 dX12_follow_44 rfl ?_
    refine a_iast F (by decide) rfl (o_4 c_1) dX12_follow_46 ?_
    refine a_iconst (v := 1) F dX12_follow_47 (by decide) ?_
    refine a_istore F dX12_follow_48 (by decide) rfl ?_
    refine a_aload_n F 5 dX12_follow_50 rfl rfl ?_
    refine a_iconst (v := 0) F dX12_follow_51 (by decide) ?_
    refine a_iload_n F 3 dX12_follow_52 rfl rfl ?_
    refine a_if_ne (tgt := 60) F dX12_follow_53 (by decide) (fun (c_2 : ¬ x1 = 0) => ?_) (fun (c_2 : x1 = 0) => ?_)
    · refine a_lconst (v := 0) F dX12_follow_60 (by decide) ?_
      refine a_last F (hp_q3) hk_q3 (o_5 c_1 c_2) dX12_follow_61 ?_
      refine a_iconst (v := 1) F dX12_follow_62 (by decide) ?_
      refine a_istore F dX12_follow_63 (by decide) rfl ?_
      refine a_sub [3, 4, 5, 6, 2, 1, 0] rfl ?_
      exact e_6 c_1 c_2
    · refine a_lconst (v := 1) F dX12_follow_56 (by decide) ?_
      refine a_goto (tgt := 61) F dX12_follow_57 (by decide) ?_
      refine a_last F (hp_q3) hk_q3 (o_7 c_1 c_2) dX12_follow_61 ?_
      refine a_iconst (v := 1) F dX12_follow_62 (by decide) ?_
      refine a_istore F dX12_follow_63 (by decide) rfl ?_
      refine a_sub [3, 4, 5, 6, 2, 1, 0] rfl ?_
      exact e_8 c_1 c_2
  · refine a_aload_n F 0 dX12_follow_10 rfl rfl ?_
    refine a_getr (b := 65) F fl_12_118 rfl (by decide) rfl rfl dX12_follow_11 ?_
    refine a_iload F 4 dX12_follow_14 rfl ?_
    refine a_lconst (v := 0) F dX12_follow_16 (by decide) ?_
    refine a_last F (by decide) rfl (o_9 c_1) dX12_follow_17 ?_
    refine a_iinc (v := x4 + 1) F 4 dX12_follow_18 rfl rfl (by decide) rfl ?_
    refine a_goto (tgt := 3) F dX12_follow_21 (by decide) ?_
    refine a_sub [1, 2, 3, 4, 0] rfl ?_
    exact e_10 c_1

theorem r_12_follow_65 {X : Ctx} (F : Fx X cX12_follow RX12 14 3 0 0) {Φ : Option Value → HS → List Nat → Prop} (E : Ex X none 0 0 Φ) {I A : Nat → Nat → Int32} {J : Nat → Nat → Int64} {x1 x2 x4 x5 x6 : Int32} {q3 : Nat} (hp_q3 : q3 ∈ plM) (hk_q3 : kM q3 = 14)
    (e_1 : (x2 < x6) → Φ none (mS I A J) plM)
    (e_2 : (¬ (x2 < x6)) → WA X (mS I A J) plM 0 0 77 [(0, .ref 0), (1, .int x1), (2, .int x2), (3, .ref q3), (4, .int x4), (5, .int x5), (6, .int x6), (7, .int 0), (8, .int 0)] []) :
    WA X (mS I A J) plM 0 0 65 [(0, .ref 0), (1, .int x1), (2, .int x2), (3, .ref q3), (4, .int x4), (5, .int x5), (6, .int x6)] [] := by
  refine a_iload F 6 dX12_follow_65 rfl ?_
  refine a_iload_n F 2 dX12_follow_67 rfl rfl ?_
  refine a_icmp_gt (tgt := 285) F dX12_follow_68 (by decide) (fun (c_3 : x2 < x6) => ?_) (fun (c_3 : ¬ (x2 < x6)) => ?_)
  · exact a_vret F E dX12_follow_285 (Nat.le_refl 0) (Nat.le_refl 0) (e_1 c_3)
  · refine a_iconst (v := 0) F dX12_follow_71 (by decide) ?_
    refine a_istore F dX12_follow_72 (by decide) rfl ?_
    refine a_iconst (v := 0) F dX12_follow_74 (by decide) ?_
    refine a_istore F dX12_follow_75 (by decide) rfl ?_
    refine a_sub [2, 3, 4, 5, 6, 7, 8, 1, 0] rfl ?_
    exact e_2 c_3

theorem r_12_follow_77 {X : Ctx} (F : Fx X cX12_follow RX12 14 3 0 0) {I A : Nat → Nat → Int32} {J : Nat → Nat → Int64} {x1 x2 x4 x5 x6 x7 x8 : Int32} {q3 : Nat} (hp_q3 : q3 ∈ plM) (hk_q3 : kM q3 = 14)
    (e_1 : (x5 ≤ x8) → WA X (mS I A J) plM 0 0 212 [(0, .ref 0), (1, .int x1), (2, .int x2), (3, .ref q3), (4, .int x4), (5, .int x5), (6, .int x6), (7, .int x7), (8, .int 0)] [])
    (o_2 : (¬ (x5 ≤ x8)) → vp_in x8 54264)
    (o_3 : (¬ (x5 ≤ x8)) → vp_in (A 69 x8.toNatClampNeg) 54264)
    (o_4 : (¬ (x5 ≤ x8)) → vp_in (A 69 x8.toNatClampNeg) 54264)
    (e_5 : (¬ (x5 ≤ x8)) → WA X (mS I A (up1 J 65 (vp_updL (J 65) (A 69 x8.toNatClampNeg).toNatClampNeg 0))) plM 0 0 113 [(0, .ref 0), (1, .int x1), (2, .int x2), (3, .ref q3), (4, .int x4), (5, .int x5), (6, .int x6), (7, .int x7), (8, .int x8), (9, .int (A 69 x8.toNatClampNeg)), (10, .long (J 65 (A 69 x8.toNatClampNeg).toNatClampNeg)), (12, .int 0)] []) :
    WA X (mS I A J) plM 0 0 77 [(0, .ref 0), (1, .int x1), (2, .int x2), (3, .ref q3), (4, .int x4), (5, .int x5), (6, .int x6), (7, .int x7), (8, .int x8)] [] := by
  refine a_iload F 8 dX12_follow_77 rfl ?_
  refine a_iload F 5 dX12_follow_79 rfl ?_
  refine a_icmp_ge (tgt := 209) F dX12_follow_81 (by decide) (fun (c_4 : x5 ≤ x8) => ?_) (fun (c_4 : ¬ (x5 ≤ x8)) => ?_)
  · refine a_iconst (v := 0) F dX12_follow_209 (by decide) ?_
    refine a_istore F dX12_follow_210 (by decide) rfl ?_
    refine a_sub [1, 2, 3, 4, 5, 6, 7, 8, 0] rfl ?_
    exact e_1 c_4
  · refine a_aload_n F 0 dX12_follow_84 rfl rfl ?_
    refine a_getr (b := 69) F fl_12_131 rfl (by decide) rfl rfl dX12_follow_85 ?_
    refine a_iload F 8 dX12_follow_88 rfl ?_
    refine a_iald F (by decide) rfl (o_2 c_4) dX12_follow_90 ?_
    refine a_istore F dX12_follow_91 (by decide) rfl ?_
    refine a_aload_n F 1 dX12_follow_93 rfl rfl ?_
    refine a_getr (b := 65) F fl_12_118 rfl (by decide) rfl rfl dX12_follow_94 ?_
    refine a_iload F 0 dX12_follow_97 rfl ?_
    refine a_lald F (by decide) rfl (o_3 c_4) dX12_follow_99 ?_
    refine a_lstore F dX12_follow_100 (by decide) rfl ?_
    refine a_aload_n F 2 dX12_follow_102 rfl rfl ?_
    refine a_getr (b := 65) F fl_12_118 rfl (by decide) rfl rfl dX12_follow_103 ?_
    refine a_iload F 1 dX12_follow_106 rfl ?_
    refine a_lconst (v := 0) F dX12_follow_108 (by decide) ?_
    refine a_last F (by decide) rfl (o_4 c_4) dX12_follow_109 ?_
    refine a_iconst (v := 0) F dX12_follow_110 (by decide) ?_
    refine a_istore F dX12_follow_111 (by decide) rfl ?_
    refine a_sub [3, 4, 5, 6, 7, 8, 9, 10, 11, 2, 1, 0] rfl ?_
    exact e_5 c_4

theorem r_12_follow_113 {X : Ctx} (F : Fx X cX12_follow RX12 14 3 0 0) {I A : Nat → Nat → Int32} {J : Nat → Nat → Int64} {x1 x2 x4 x5 x6 x7 x8 x9 x12 : Int32} {y10 : Int64} {q3 : Nat} (hp_q3 : q3 ∈ plM) (hk_q3 : kM q3 = 14)
    (e_1 : (21 ≤ x12) → WA X (mS I A J) plM 0 0 77 [(0, .ref 0), (1, .int x1), (2, .int x2), (3, .ref q3), (4, .int x4), (5, .int x5), (6, .int x6), (7, .int x7), (8, .int (x8 + 1))] [])
    (o_2 : (¬ (21 ≤ x12)) → (¬ x9 = 0) → vp_in ((21 * x9) + x12) 1139544)
    (e_3 : (¬ (21 ≤ x12)) → WA X (mS I A J) plM 0 0 144 [(0, .ref 0), (1, .int x1), (2, .int x2), (3, .ref q3), (4, .int x4), (5, .int x5), (6, .int x6), (7, .int x7), (8, .int x8), (9, .int x9), (10, .long y10), (12, .int x12), (13, .int (if x9 = 0 then 0 else (A 50 ((21 * x9) + x12).toNatClampNeg)))] []) :
    WA X (mS I A J) plM 0 0 113 [(0, .ref 0), (1, .int x1), (2, .int x2), (3, .ref q3), (4, .int x4), (5, .int x5), (6, .int x6), (7, .int x7), (8, .int x8), (9, .int x9), (10, .long y10), (12, .int x12)] [] := by
  refine a_iload F 11 dX12_follow_113 rfl ?_
  refine a_bipush (v := 21) F dX12_follow_115 (by decide) ?_
  refine a_icmp_ge (tgt := 203) F dX12_follow_117 (by decide) (fun (c_5 : 21 ≤ x12) => ?_) (fun (c_5 : ¬ (21 ≤ x12)) => ?_)
  · refine a_iinc (v := x8 + 1) F 8 dX12_follow_203 rfl rfl (by decide) rfl ?_
    refine a_goto (tgt := 77) F dX12_follow_206 (by decide) ?_
    refine a_sub [1, 2, 3, 4, 5, 6, 7, 8, 0] rfl ?_
    exact e_1 c_5
  · refine a_iload F 9 dX12_follow_120 rfl ?_
    suffices k : ∀ z9 : Int32, z9 = (if x9 = 0 then 0 else (A 50 ((21 * x9) + x12).toNatClampNeg)) → WA X (mS I A J) plM 0 0 142 [(0, .ref 0), (1, .int x1), (2, .int x2), (3, .ref q3), (4, .int x4), (5, .int x5), (6, .int x6), (7, .int x7), (8, .int x8), (9, .int x9), (10, .long y10), (12, .int x12)] [.int z9] by
      refine a_if_ne (tgt := 129) F dX12_follow_122 (by decide) (fun (c_6 : ¬ x9 = 0) => ?_) (fun (c_6 : x9 = 0) => ?_)
      · refine a_aload_n F 0 dX12_follow_129 rfl rfl ?_
        refine a_getr (b := 50) F fl_12_84 rfl (by decide) rfl rfl dX12_follow_130 ?_
        refine a_bipush (v := 21) F dX12_follow_133 (by decide) ?_
        refine a_iload F 9 dX12_follow_135 rfl ?_
        refine a_imul F dX12_follow_137 ?_
        refine a_iload F 11 dX12_follow_138 rfl ?_
        refine a_iadd F dX12_follow_140 ?_
        refine a_iald F (by decide) rfl (o_2 c_5 c_6) dX12_follow_141 ?_
        exact k _ (by rw [if_neg c_6] <;> rfl)
      · refine a_iconst (v := 0) F dX12_follow_125 (by decide) ?_
        refine a_goto (tgt := 142) F dX12_follow_126 (by decide) ?_
        exact k _ (by rw [if_pos c_6] <;> rfl)
    rintro _ rfl
    refine a_istore F dX12_follow_142 (by decide) rfl ?_
    refine a_sub [1, 2, 3, 4, 5, 6, 7, 8, 9, 10, 11, 12, 0] rfl ?_
    exact e_3 c_5

theorem r_12_follow_144 {X : Ctx} (F : Fx X cX12_follow RX12 14 3 0 0) {I A : Nat → Nat → Int32} {J : Nat → Nat → Int64} {x1 x2 x4 x5 x6 x7 x8 x9 x12 x13 : Int32} {y10 : Int64} {q3 : Nat} (hp_q3 : q3 ∈ plM) (hk_q3 : kM q3 = 14)
    (o_1 : vp_in x13 54264)
    (e_2 : (¬ (lg_cmp (J 66 x13.toNatClampNeg) 0) = 0) → WA X (mS I A J) plM 0 0 168 [(0, .ref 0), (1, .int x1), (2, .int x2), (3, .ref q3), (4, .int x4), (5, .int x5), (6, .int x6), (7, .int x7), (8, .int x8), (9, .int x9), (10, .long y10), (12, .int x12), (13, .int x13)] [])
    (o_3 : ((lg_cmp (J 66 x13.toNatClampNeg) 0) = 0) → vp_in x7 54264)
    (e_4 : ((lg_cmp (J 66 x13.toNatClampNeg) 0) = 0) → WA X (mS I (up1 A 70 (upd (A 70) x7.toNatClampNeg x13)) J) plM 0 0 168 [(0, .ref 0), (1, .int x1), (2, .int x2), (3, .ref q3), (4, .int x4), (5, .int x5), (6, .int x6), (7, .int (x7 + 1)), (8, .int x8), (9, .int x9), (10, .long y10), (12, .int x12), (13, .int x13)] []) :
    WA X (mS I A J) plM 0 0 144 [(0, .ref 0), (1, .int x1), (2, .int x2), (3, .ref q3), (4, .int x4), (5, .int x5), (6, .int x6), (7, .int x7), (8, .int x8), (9, .int x9), (10, .long y10), (12, .int x12), (13, .int x13)] [] := by
  refine a_aload_n F 0 dX12_follow_144 rfl rfl ?_
  refine a_getr (b := 66) F fl_12_122 rfl (by decide) rfl rfl dX12_follow_145 ?_
  refine a_iload F 12 dX12_follow_148 rfl ?_
  refine a_lald F (by decide) rfl (o_1) dX12_follow_150 ?_
  refine a_lconst (v := 0) F dX12_follow_151 (by decide) ?_
  refine a_lcmp F dX12_follow_152 ?_
  refine a_if_ne (tgt := 168) F dX12_follow_153 (by decide) (fun (c_7 : ¬ (lg_cmp (J 66 x13.toNatClampNeg) 0) = 0) => ?_) (fun (c_7 : (lg_cmp (J 66 x13.toNatClampNeg) 0) = 0) => ?_)
  · exact e_2 c_7
  · refine a_aload_n F 0 dX12_follow_156 rfl rfl ?_
    refine a_getr (b := 70) F fl_12_134 rfl (by decide) rfl rfl dX12_follow_157 ?_
    refine a_iload F 7 dX12_follow_160 rfl ?_
    refine a_iload F 12 dX12_follow_162 rfl ?_
    refine a_iast F (by decide) rfl (o_3 c_7) dX12_follow_164 ?_
    refine a_iinc (v := x7 + 1) F 7 dX12_follow_165 rfl rfl (by decide) rfl ?_
    refine a_sub [1, 2, 3, 4, 5, 6, 7, 0, 8, 9, 10, 11, 12] rfl ?_
    exact e_4 c_7

theorem r_12_follow_168 {X : Ctx} (F : Fx X cX12_follow RX12 14 3 0 0) {I A : Nat → Nat → Int32} {J : Nat → Nat → Int64} {x1 x2 x4 x5 x6 x7 x8 x9 x12 x13 : Int32} {y10 : Int64} {q3 : Nat} (hp_q3 : q3 ∈ plM) (hk_q3 : kM q3 = 14)
    (o_1 : vp_in x13 54264)
    (o_2 : (dblI x12) → vp_in x13 54264)
    (e_3 : (dblI x12) → WA X (mS I A (up1 J 66 (vp_updL (J 66) x13.toNatClampNeg ((J 66 x13.toNatClampNeg) + y10)))) plM 0 0 113 [(0, .ref 0), (1, .int x1), (2, .int x2), (3, .ref q3), (4, .int x4), (5, .int x5), (6, .int x6), (7, .int x7), (8, .int x8), (9, .int x9), (10, .long y10), (12, .int (x12 + 1))] [])
    (o_4 : (¬ (dblI x12)) → vp_in x13 54264)
    (e_5 : (¬ (dblI x12)) → WA X (mS I A (up1 J 66 (vp_updL (J 66) x13.toNatClampNeg ((J 66 x13.toNatClampNeg) + (2 * y10))))) plM 0 0 113 [(0, .ref 0), (1, .int x1), (2, .int x2), (3, .ref q3), (4, .int x4), (5, .int x5), (6, .int x6), (7, .int x7), (8, .int x8), (9, .int x9), (10, .long y10), (12, .int (x12 + 1))] []) :
    WA X (mS I A J) plM 0 0 168 [(0, .ref 0), (1, .int x1), (2, .int x2), (3, .ref q3), (4, .int x4), (5, .int x5), (6, .int x6), (7, .int x7), (8, .int x8), (9, .int x9), (10, .long y10), (12, .int x12), (13, .int x13)] [] := by
  refine a_aload_n F 0 dX12_follow_168 rfl rfl ?_
  refine a_getr (b := 66) F fl_12_122 rfl (by decide) rfl rfl dX12_follow_169 ?_
  refine a_iload F 12 dX12_follow_172 rfl ?_
  refine a_dup2 F dX12_follow_174 rfl rfl ?_
  refine a_lald F (by decide) rfl (o_1) dX12_follow_175 ?_
  refine a_iload F 11 dX12_follow_176 rfl ?_
  refine a_callS (As := [.int x12]) (st := [.long (J 66 x13.toNatClampNeg), .int x13, .ref 66]) F (c_isDouble (xl X) I A J x12) ml_12_415 sm_yX12_isDouble (by decide) rfl dX12_follow_178 (Nat.le_of_ble_eq_true rfl) (Nat.le_refl 0) (Nat.le_refl 0) (hl_r (by decide) (hl_i (hl_i (hl_r (hp_q3) (hl_i (hl_i (hl_i (hl_i (hl_i (hl_i (hl_l (hl_i (hl_i hl_nil))))))))))))) (hs_l (hs_i (hs_r (by decide) hs_nil))) ?_
  rintro _ _ _ ⟨rfl, rfl, rfl⟩ _
  show WA X (mS I A J) plM 0 0 181 [(0, .ref 0), (1, .int x1), (2, .int x2), (3, .ref q3), (4, .int x4), (5, .int x5), (6, .int x6), (7, .int x7), (8, .int x8), (9, .int x9), (10, .long y10), (12, .int x12), (13, .int x13)] [.int (@ite Int32 (dblI x12) (Classical.propDecidable _) 1 0), .long (J 66 x13.toNatClampNeg), .int x13, .ref 66]
  refine a_ite (fun (c_8 : dblI x12) => ?_) (fun (c_8 : ¬ (dblI x12)) => ?_)
  · refine a_if_eq (tgt := 189) F dX12_follow_181 (by decide) (fun (c_9 : (1 : Int32) = 0) => ?_) (fun (c_9 : ¬ ((1 : Int32) = 0)) => ?_)
    · exact absurd c_9 (by decide)
    · refine a_lload F 10 dX12_follow_184 rfl ?_
      refine a_goto (tgt := 195) F dX12_follow_186 (by decide) ?_
      refine a_ladd F dX12_follow_195 ?_
      refine a_last F (by decide) rfl (o_2 c_8) dX12_follow_196 ?_
      refine a_iinc (v := x12 + 1) F 11 dX12_follow_197 rfl rfl (by decide) rfl ?_
      refine a_goto (tgt := 113) F dX12_follow_200 (by decide) ?_
      refine a_sub [1, 2, 3, 4, 5, 6, 7, 8, 9, 10, 11, 0] rfl ?_
      exact e_3 c_8
  · refine a_if_eq (tgt := 189) F dX12_follow_181 (by decide) (fun (c_10 : (0 : Int32) = 0) => ?_) (fun (c_10 : ¬ ((0 : Int32) = 0)) => ?_)
    · refine a_ldc2 F kc_12_418 dX12_follow_189 ?_
      refine a_lload F 10 dX12_follow_192 rfl ?_
      refine a_lmul F dX12_follow_194 ?_
      refine a_ladd F dX12_follow_195 ?_
      refine a_last F (by decide) rfl (o_4 c_8) dX12_follow_196 ?_
      refine a_iinc (v := x12 + 1) F 11 dX12_follow_197 rfl rfl (by decide) rfl ?_
      refine a_goto (tgt := 113) F dX12_follow_200 (by decide) ?_
      refine a_sub [1, 2, 3, 4, 5, 6, 7, 8, 9, 10, 11, 0] rfl ?_
      exact e_5 c_8
    · exact absurd c_10 (by decide)

theorem r_12_follow_212 {X : Ctx} (F : Fx X cX12_follow RX12 14 3 0 0) {I A : Nat → Nat → Int32} {J : Nat → Nat → Int64} {x1 x2 x4 x5 x6 x7 x8 : Int32} {q3 : Nat} (hp_q3 : q3 ∈ plM) (hk_q3 : kM q3 = 14)
    (o_1 : (x7 ≤ x8) → vp_in 0 54264)
    (o_2 : (x7 ≤ x8) → vp_in x6 (nM q3))
    (e_3 : (x7 ≤ x8) → WA X (mS I A (up1 J q3 (vp_updL (J q3) x6.toNatClampNeg (J 65 0)))) plM 0 0 65 [(0, .ref 0), (1, .int x1), (2, .int x2), (3, .ref q3), (4, .int x4), (5, .int x7), (6, .int (x6 + 1))] [])
    (o_4 : (¬ (x7 ≤ x8)) → vp_in x8 54264)
    (o_5 : (¬ (x7 ≤ x8)) → vp_in x8 54264)
    (o_6 : (¬ (x7 ≤ x8)) → vp_in (A 70 x8.toNatClampNeg) 54264)
    (o_7 : (¬ (x7 ≤ x8)) → vp_in (A 70 x8.toNatClampNeg) 54264)
    (o_8 : (¬ (x7 ≤ x8)) → vp_in (A 70 x8.toNatClampNeg) 54264)
    (e_9 : (¬ (x7 ≤ x8)) → WA X (mS I (up1 A 69 (upd (A 69) x8.toNatClampNeg (A 70 x8.toNatClampNeg))) (up1 (up1 J 65 (vp_updL (J 65) (A 70 x8.toNatClampNeg).toNatClampNeg (J 66 (A 70 x8.toNatClampNeg).toNatClampNeg))) 66 (vp_updL (J 66) (A 70 x8.toNatClampNeg).toNatClampNeg 0))) plM 0 0 212 [(0, .ref 0), (1, .int x1), (2, .int x2), (3, .ref q3), (4, .int x4), (5, .int x5), (6, .int x6), (7, .int x7), (8, .int (x8 + 1))] []) :
    WA X (mS I A J) plM 0 0 212 [(0, .ref 0), (1, .int x1), (2, .int x2), (3, .ref q3), (4, .int x4), (5, .int x5), (6, .int x6), (7, .int x7), (8, .int x8)] [] := by
  refine a_iload F 8 dX12_follow_212 rfl ?_
  refine a_iload F 7 dX12_follow_214 rfl ?_
  refine a_icmp_ge (tgt := 265) F dX12_follow_216 (by decide) (fun (c_11 : x7 ≤ x8) => ?_) (fun (c_11 : ¬ (x7 ≤ x8)) => ?_)
  · refine a_iload F 7 dX12_follow_265 rfl ?_
    refine a_istore F dX12_follow_267 (by decide) rfl ?_
    refine a_aload_n F 4 dX12_follow_269 rfl rfl ?_
    refine a_iload F 6 dX12_follow_270 rfl ?_
    refine a_aload_n F 1 dX12_follow_272 rfl rfl ?_
    refine a_getr (b := 65) F fl_12_118 rfl (by decide) rfl rfl dX12_follow_273 ?_
    refine a_iconst (v := 0) F dX12_follow_276 (by decide) ?_
    refine a_lald F (by decide) rfl (o_1 c_11) dX12_follow_277 ?_
    refine a_last F (hp_q3) hk_q3 (o_2 c_11) dX12_follow_278 ?_
    refine a_iinc (v := x6 + 1) F 6 dX12_follow_279 rfl rfl (by decide) rfl ?_
    refine a_goto (tgt := 65) F dX12_follow_282 (by decide) ?_
    refine a_sub [2, 3, 4, 5, 6, 1, 0] rfl ?_
    exact e_3 c_11
  · refine a_aload_n F 0 dX12_follow_219 rfl rfl ?_
    refine a_getr (b := 70) F fl_12_134 rfl (by decide) rfl rfl dX12_follow_220 ?_
    refine a_iload F 8 dX12_follow_223 rfl ?_
    refine a_iald F (by decide) rfl (o_4 c_11) dX12_follow_225 ?_
    refine a_istore F dX12_follow_226 (by decide) rfl ?_
    refine a_aload_n F 1 dX12_follow_228 rfl rfl ?_
    refine a_getr (b := 69) F fl_12_131 rfl (by decide) rfl rfl dX12_follow_229 ?_
    refine a_iload F 9 dX12_follow_232 rfl ?_
    refine a_iload F 0 dX12_follow_234 rfl ?_
    refine a_iast F (by decide) rfl (o_5 c_11) dX12_follow_236 ?_
    refine a_aload_n F 1 dX12_follow_237 rfl rfl ?_
    refine a_getr (b := 65) F fl_12_118 rfl (by decide) rfl rfl dX12_follow_238 ?_
    refine a_iload F 0 dX12_follow_241 rfl ?_
    refine a_aload_n F 1 dX12_follow_243 rfl rfl ?_
    refine a_getr (b := 66) F fl_12_122 rfl (by decide) rfl rfl dX12_follow_244 ?_
    refine a_iload F 0 dX12_follow_247 rfl ?_
    refine a_lald F (by decide) rfl (o_6 c_11) dX12_follow_249 ?_
    refine a_last F (by decide) rfl (o_7 c_11) dX12_follow_250 ?_
    refine a_aload_n F 1 dX12_follow_251 rfl rfl ?_
    refine a_getr (b := 66) F fl_12_122 rfl (by decide) rfl rfl dX12_follow_252 ?_
    refine a_iload F 0 dX12_follow_255 rfl ?_
    refine a_lconst (v := 0) F dX12_follow_257 (by decide) ?_
    refine a_last F (by decide) rfl (o_8 c_11) dX12_follow_258 ?_
    refine a_iinc (v := x8 + 1) F 9 dX12_follow_259 rfl rfl (by decide) rfl ?_
    refine a_goto (tgt := 212) F dX12_follow_262 (by decide) ?_
    refine a_sub [2, 3, 4, 5, 6, 7, 8, 9, 0] rfl ?_
    exact e_9 c_11

set_option maxRecDepth 10000 in
theorem c_follow (l : Launch) (I A : Nat → Nat → Int32) (J : Nat → Nat → Int64) (s n L q : Nat) (hs : stnd s) (hp : pipS s ≤ L) (hn : n ≤ 12) (hq : q = 67 ∨ q = 68) (hch : chT (A 52)) (hkn : ∀ t, stnd t → pipS t ≤ L → dnS A t) (hj : joS J) : Con l 3 yX12_follow cX12_follow 14 none [.ref 0, .int (nI s), .int (nI n), .ref q] (mS I A J) plM 0 0 (foQ I A J s n q) := by
  refine Con.of (by decide) (Nat.le_of_ble_eq_true rfl) (fun X hX9 hn9 F E => ?_)
  have hqp : q ∈ plM := by rcases hq with rfl | rfl <;> decide
  have hqk : kM q = 14 := by rcases hq with rfl | rfl <;> rfl
  have hqn : nM q = 13 := by rcases hq with rfl | rfl <;> rfl
  have q65 : q ≠ 65 := by omega
  have q66 : q ≠ 66 := by omega
  have h6 : s < 16777216 := hs.1
  have hns := num_lt hs
  have en : nmI (nI s) = nI (num s) := by unfold nmI; rw [nI_clamp (by omega)]
  have p12 : ∀ r, r ≤ 12 → 36 ^ r < 2 ^ 63 := fun r hr => Nat.lt_of_le_of_lt (Nat.pow_le_pow_right (by decide) hr) (by decide +kernel)
  -- the rounds
  have rounds : ∀ e r (A1 : Nat → Nat → Int32) (J1 : Nat → Nat → Int64) (f ac : Nat → Nat) (many : Nat) (x4 : Int32), r + e = n + 1 → 1 ≤ r → (∀ p, p ≠ 69 → p ≠ 70 → A1 p = A p) → (∀ p, p ≠ 65 → p ≠ 66 → p ≠ q → J1 p = J p) → (∀ m, m < 54264 → J1 65 m = lN (f m)) → joS J1 → (∀ i, i < many → A1 69 i = nI (ac i)) → lsP (knN L) f ac 0 many → fwR s (r - 1) f → (∀ j, j < r → J1 q j = lN (wN j s)) → WA X (mS I A1 J1) plM 0 0 65 [(0, .ref 0), (1, .int (nI s)), (2, .int (nI n)), (3, .ref q), (4, .int x4), (5, .int (nI many)), (6, .int (nI r))] [] := by
    intro e
    induction e with
    | zero =>
      intro r A1 J1 f ac many x4 he hr fA fJ h65 h66 h69 hl hw hres
      have c : nI n < nI r := (nI_ltI (by omega) (by omega)).mpr (by omega)
      exact r_12_follow_65 F E hqp hqk (fun _ => ⟨A1, J1, rfl, rfl, rfl, fA, h66, fJ, fun j hj => hres j (by omega)⟩) (fun z => absurd c z)
    | succ e ihr =>
      intro r A1 J1 f ac many x4 he hr fA fJ h65 h66 h69 hl hw hres
      have c : ¬ nI n < nI r := fun z => by have := (nI_ltI (by omega) (by omega)).mp z; omega
      refine r_12_follow_65 F E hqp hqk (fun z => absurd z c) (fun _ => ?_)
      have hmany := ls_len hl
      have hr1 : r - 1 + 1 = r := by omega
      have hgo := fw_go hw
      rw [hr1] at hgo
      -- copying
      have l212 : ∀ e i (A1 : Nat → Nat → Int32) (J1 : Nat → Nat → Int64) (G f g an : Nat → Nat) (mt : Nat) (x5 : Int32), i + e = mt → (∀ p, p ≠ 69 → p ≠ 70 → A1 p = A p) → (∀ p, p ≠ 65 → p ≠ 66 → p ≠ q → J1 p = J p) → (∀ m, m < 54264 → J1 65 m = lN (f m)) → (∀ m, m < 54264 → J1 66 m = lN (g m)) → (∀ i, i < mt → A1 70 i = nI (an i)) → (∀ j, j < i → A1 69 j = nI (an j)) → lsP (knN L) G an 0 mt → lsP (knN L) g an i mt → (∀ m, f m + g m = G m) → (∀ m, f m = 0 ∨ g m = 0) → fwR s r G → (∀ j, j < r → J1 q j = lN (wN j s)) → WA X (mS I A1 J1) plM 0 0 212 [(0, .ref 0), (1, .int (nI s)), (2, .int (nI n)), (3, .ref q), (4, .int x4), (5, .int x5), (6, .int (nI r)), (7, .int (nI mt)), (8, .int (nI i))] [] := by
        intro e
        induction e with
        | zero =>
          intro i A1 J1 G f g an mt x5 hi fA fJ h65 h66 h70 h69 hG hg hfg hx hwG hres
          have hlen := ls_len hG
          obtain rfl : i = mt := by omega
          have c : nI i ≤ nI i := Int32.le_refl _
          have g0 : ∀ m, g m = 0 := fun m => by
            by_cases z : g m = 0
            · exact z
            · obtain ⟨j, y1, y2, _⟩ := hg.2.2 m z; omega
          have ef : f = G := funext (fun m => by have := hfg m; rw [g0 m] at this; omega)
          subst ef
          refine r_12_follow_212 F hqp hqk (fun _ => vp_in_nI (n := 0) (by omega) (by omega)) (fun _ => by rw [hqn]; exact vp_in_nI (by omega) (by omega)) (fun _ => ?_) (fun z => absurd c z) (fun z => absurd c z) (fun z => absurd c z) (fun z => absurd c z) (fun z => absurd c z) (fun z => absurd c z)
          rw [nI_clamp (by omega), nI_1, h65 0 (by omega), fw_0 hwG]
          refine ihr (r + 1) A1 _ f an i x4 (by omega) (by omega) fA (fun p p1 p2 p3 => by rw [up1_p p3]; exact fJ p p1 p2 p3) (fun m hm => by rw [up1_p (fun z => q65 z.symm)]; exact h65 m hm) (fun m hm => by rw [up1_p (fun z => q66 z.symm), h66 m hm, g0]; rfl) h69 hG (by rw [Nat.add_sub_cancel]; exact hwG) (fun j hj => ?_)
          rw [up1_s]
          by_cases z : j = r
          · rw [z, ul_in]
          · rw [ul_out z]; exact hres j (by omega)
        | succ e ih =>
          intro i A1 J1 G f g an mt x5 hi fA fJ h65 h66 h70 h69 hG hg hfg hx hwG hres
          have hlen := ls_len hG
          have c : ¬ nI mt ≤ nI i := fun z => by have := (nI_leI (by omega) (by omega)).mp z; omega
          have hk := (hG.1 i (by omega) (by omega)).1
          have hlt := kn_lt hk
          have e70 := h70 i (by omega)
          have ci : (nI i).toNatClampNeg = i := nI_clamp (by omega)
          have ca : (nI (an i)).toNatClampNeg = an i := nI_clamp (by omega)
          have hvp : vp_in (A1 70 (nI i).toNatClampNeg) 54264 := by rw [ci, e70]; exact vp_in_nI (by omega) (by omega)
          refine r_12_follow_212 F hqp hqk (fun z => absurd z c) (fun z => absurd z c) (fun z => absurd z c) (fun _ => vp_in_nI (by omega) (by omega)) (fun _ => vp_in_nI (by omega) (by omega)) (fun _ => hvp) (fun _ => hvp) (fun _ => hvp) (fun _ => ?_)
          rw [ci, e70, ca, nI_1, h66 _ hlt]
          have hf0 : f (an i) = 0 := (hx (an i)).resolve_right (fun z => by have := (hg.1 i (Nat.le_refl _) (by omega)).2; omega)
          refine ih (i + 1) _ _ G (va_up f (an i) (g (an i))) (va_up g (an i) 0) an mt x5 (by omega) (fun p p1 p2 => by rw [up1_p p1]; exact fA p p1 p2) (fun p p1 p2 p3 => by rw [up1_p p2, up1_p p1]; exact fJ p p1 p2 p3) (fun m hm => by rw [up1_p (by decide), up1_s]; exact ul_l h65 rfl m hm) (fun m hm => by rw [up1_s]; exact ul_l h66 rfl m hm) (fun j hj => by rw [up1_p (by decide)]; exact h70 j hj) (fun j hj => ?_) hG (ls_take hg (by omega)) (fun m => ?_) (fun m => ?_) hwG (fun j hj => by rw [up1_p q66, up1_p q65]; exact hres j hj)
          · rw [up1_s]
            by_cases z : j = i
            · rw [z, upd_in]
            · rw [upd_out z]; exact h69 j (by omega)
          · by_cases z : m = an i
            · rw [z, va_s, va_s, Nat.add_zero, ← hfg (an i), hf0, Nat.zero_add]
            · rw [va_n z, va_n z]; exact hfg m
          · by_cases z : m = an i
            · rw [z]; exact Or.inr va_s
            · rw [va_n z, va_n z]; exact hx m
      -- one roll of all
      have l77 : ∀ e i (A1 : Nat → Nat → Int32) (J1 : Nat → Nat → Int64) (f g an : Nat → Nat) (mt : Nat), i + e = many → (∀ p, p ≠ 69 → p ≠ 70 → A1 p = A p) → (∀ p, p ≠ 65 → p ≠ 66 → p ≠ q → J1 p = J p) → (∀ m, m < 54264 → J1 65 m = lN (f m)) → (∀ m, m < 54264 → J1 66 m = lN (g m)) → (∀ i, i < mt → A1 70 i = nI (an i)) → (∀ j, j < many → A1 69 j = nI (ac j)) → lsP (knN L) f ac i many → lsP (knN L) g an 0 mt → (∀ W W' T, QQ s r W W' T → phi W' f + phi W g = T) → (∀ j, j < r → J1 q j = lN (wN j s)) → WA X (mS I A1 J1) plM 0 0 77 [(0, .ref 0), (1, .int (nI s)), (2, .int (nI n)), (3, .ref q), (4, .int x4), (5, .int (nI many)), (6, .int (nI r)), (7, .int (nI mt)), (8, .int (nI i))] [] := by
        intro e
        induction e with
        | zero =>
          intro i A1 J1 f g an mt hi fA fJ h65 h66 h70 h69 hf hg hq9 hres
          obtain rfl : i = many := by omega
          have c : nI i ≤ nI i := Int32.le_refl _
          have f0 : ∀ m, f m = 0 := fun m => by
            by_cases z : f m = 0
            · exact z
            · obtain ⟨j, y1, y2, _⟩ := hf.2.2 m z; omega
          refine r_12_follow_77 F hqp hqk (fun _ => ?_) (fun z => absurd c z) (fun z => absurd c z) (fun z => absurd c z) (fun z => absurd c z)
          exact l212 mt 0 A1 J1 g f g an mt _ (by omega) fA fJ h65 h66 h70 (fun j hj => absurd hj (by omega)) hg hg (fun m => by rw [f0 m, Nat.zero_add]) (fun m => Or.inl (f0 m)) (fw_of (fun W W' T hq => by have := hq9 W W' T hq; rw [phi_z f0, Nat.zero_add] at this; exact this)) hres
        | succ e ih =>
          intro i A1 J1 f g an mt hi fA fJ h65 h66 h70 h69 hf hg hq9 hres
          have c : ¬ nI many ≤ nI i := fun z => by have := (nI_leI (by omega) (by omega)).mp z; omega
          obtain ⟨hk, hfp⟩ := hf.1 i (Nat.le_refl _) (by omega)
          have hlt := kn_lt hk
          have e69 := h69 i (by omega)
          have ci : (nI i).toNatClampNeg = i := nI_clamp (by omega)
          have ca : (nI (ac i)).toNatClampNeg = ac i := nI_clamp (by omega)
          have hvp : vp_in (A1 69 (nI i).toNatClampNeg) 54264 := by rw [ci, e69]; exact vp_in_nI (by omega) (by omega)
          refine r_12_follow_77 F hqp hqk (fun z => absurd z c) (fun _ => vp_in_nI (by omega) (by omega)) (fun _ => hvp) (fun _ => hvp) (fun _ => ?_)
          rw [ci, e69, ca, h65 _ hlt]
          obtain ⟨s', hs', hp', hm'⟩ := hk
          have hkk : knN L (ac i) := ⟨s', hs', hp', hm'⟩
          have us : unum (ac i) = s' := by rw [← hm']; exact unum_e hs'
          have l113 : ∀ e d (A1 : Nat → Nat → Int32) (J1 : Nat → Nat → Int64) (g an : Nat → Nat) (mt : Nat), d + e = 21 → (∀ p, p ≠ 69 → p ≠ 70 → A1 p = A p) → (∀ p, p ≠ 65 → p ≠ 66 → p ≠ q → J1 p = J p) → (∀ m, m < 54264 → J1 65 m = lN (va_up f (ac i) 0 m)) → (∀ m, m < 54264 → J1 66 m = lN (g m)) → (∀ i, i < mt → A1 70 i = nI (an i)) → (∀ j, j < many → A1 69 j = nI (ac j)) → lsP (knN L) g an 0 mt → (∀ W W' T, QQ s r W W' T → phi W' (va_up f (ac i) 0) + phi W g + f (ac i) * sumB (fun d => mu d * W (nn (ac i) d)) d e = T) → (∀ j, j < r → J1 q j = lN (wN j s)) → WA X (mS I A1 J1) plM 0 0 113 [(0, .ref 0), (1, .int (nI s)), (2, .int (nI n)), (3, .ref q), (4, .int x4), (5, .int (nI many)), (6, .int (nI r)), (7, .int (nI mt)), (8, .int (nI i)), (9, .int (nI (ac i))), (10, .long (lN (f (ac i)))), (12, .int (nI d))] [] := by
            intro e
            induction e with
            | zero =>
              intro d A1 J1 g an mt hd fA fJ h65 h66 h70 h69 hg hq9 hres
              obtain rfl : d = 21 := by omega
              have c : (21 : Int32) ≤ nI 21 := by decide
              refine r_12_follow_113 F hqp hqk (fun _ => ?_) (fun z => absurd c z) (fun z => absurd c z)
              rw [nI_1]
              exact ih (i + 1) A1 J1 _ g an mt (by omega) fA fJ h65 h66 h70 h69 (ls_take hf (by omega)) hg (fun W W' T hq => by have := hq9 W W' T hq; simpa [sumB] using this) hres
            | succ e ihd =>
              intro d A1 J1 g an mt hd fA fJ h65 h66 h70 h69 hg hq9 hres
              have c : ¬ (21 : Int32) ≤ nI d := nI_ge (b := 21) (by omega) (by omega)
              have e1 : 21 * nI (ac i) + nI d = nI (21 * ac i + d) := by rw [lit 21, pk_mul, nI_add]
              have hdd := dn_d d (by omega)
              have ht := nn_k hkk (show d < 21 by omega)
              have htl := kn_lt ht
              have e13 : (if nI (ac i) = 0 then 0 else A1 50 (21 * nI (ac i) + nI d).toNatClampNeg) = nI (nn (ac i) d) := by
                rw [e1, nI_clamp (by omega)]
                unfold nn nxt; rw [us]
                by_cases z : s' = 0
                · rw [if_pos z, if_pos (by rw [← hm', z, num_0]; rfl), num_0]; rfl
                · rw [if_neg z, if_neg (fun y => z (num_inj hs' st_0 (by rw [hm', num_0]; exact (nI_z (by omega)).mp y)))]
                  have := (hkn s' hs' hp').2.2.2 z (dA d) (dB d) hdd.2.1 hdd.2.2.1 hdd.2.2.2
                  rw [hdd.1, hm'] at this
                  rw [fA 50 (by decide) (by decide)]; exact this
              refine r_12_follow_113 F hqp hqk (fun z => absurd z c) (fun _ _ => by rw [e1]; exact vp_in_nI (by omega) (by omega)) (fun _ => ?_)
              rw [e13]
              generalize hT : nn (ac i) d = t at ht htl
              have ct : (nI t).toNatClampNeg = t := nI_clamp (by omega)
              have hvt : vp_in (nI t) 54264 := vp_in_nI (by omega) (by omega)
              have hbnd : g t < 2 ^ 63 := by
                have h1 := phi_le (f := g) htl
                have h2 := hq9 _ _ _ (Or.inr ⟨rfl, rfl, rfl⟩)
                have h3 := p12 r (by omega)
                omega
              have cz : lg_cmp (J1 66 (nI t).toNatClampNeg) 0 = 0 ↔ g t = 0 := by
                rw [lg_cmp_eq, ct, h66 t htl]; exact pk_lEQ (b := 0) hbnd (by decide)
              -- the sum
              have step : ∀ (A2 : Nat → Nat → Int32) (an2 : Nat → Nat) (mt2 : Nat), (∀ p, p ≠ 69 → p ≠ 70 → A2 p = A p) → (∀ i, i < mt2 → A2 70 i = nI (an2 i)) → (∀ j, j < many → A2 69 j = nI (ac j)) → lsP (knN L) (va_up g t (g t + mu d * f (ac i))) an2 0 mt2 → WA X (mS I A2 J1) plM 0 0 168 [(0, .ref 0), (1, .int (nI s)), (2, .int (nI n)), (3, .ref q), (4, .int x4), (5, .int (nI many)), (6, .int (nI r)), (7, .int (nI mt2)), (8, .int (nI i)), (9, .int (nI (ac i))), (10, .long (lN (f (ac i)))), (12, .int (nI d)), (13, .int (nI t))] [] := by
                intro A2 an2 mt2 fA2 h70' h69' hl2
                have fin : ∀ x, x = lN (g t + mu d * f (ac i)) → WA X (mS I A2 (up1 J1 66 (vp_updL (J1 66) t x))) plM 0 0 113 [(0, .ref 0), (1, .int (nI s)), (2, .int (nI n)), (3, .ref q), (4, .int x4), (5, .int (nI many)), (6, .int (nI r)), (7, .int (nI mt2)), (8, .int (nI i)), (9, .int (nI (ac i))), (10, .long (lN (f (ac i)))), (12, .int (nI d + 1))] [] := fun x hx => by
                  rw [nI_1]
                  refine ihd (d + 1) A2 _ (va_up g t (g t + mu d * f (ac i))) an2 mt2 (by omega) fA2 (fun p p1 p2 p3 => by rw [up1_p p2]; exact fJ p p1 p2 p3) (fun m hm => by rw [up1_p (by decide)]; exact h65 m hm) (fun m hm => by rw [up1_s]; exact ul_l h66 hx m hm) h70' h69' hl2 (fun W W' T hq => ?_) (fun j hj => by rw [up1_p q66]; exact hres j hj)
                  have h1 := hq9 W W' T hq
                  have h2 := su_sh (f := fun d => mu d * W (nn (ac i) d)) e d
                  have h3 := phi_up (W := W) (f := g) (t := t) (v := g t + mu d * f (ac i)) htl
                  rw [← h2, Nat.mul_add] at h1
                  simp only [hT] at h1
                  rw [Nat.add_mul] at h3
                  have h4 : f (ac i) * (mu d * W t) = mu d * f (ac i) * W t := by rw [← Nat.mul_assoc, Nat.mul_comm (f (ac i)) (mu d)]
                  omega
                have md := mu_dbl d (by omega)
                refine r_12_follow_168 F hqp hqk hvt (fun _ => hvt) (fun z => ?_) (fun _ => hvt) (fun z => ?_)
                · rw [ct]
                  exact fin _ (by rw [h66 t htl, lN_add, md.mp z, Nat.one_mul])
                · rw [ct]
                  exact fin _ (by rw [h66 t htl, show (2 : Int64) = lN 2 from rfl, lN_mul, lN_add]; have m2 : mu d = 2 := (mu_12 d).resolve_left (fun y => z (md.mpr y)); rw [m2])
              have hmp : 0 < mu d * f (ac i) := Nat.mul_pos (by have := mu_12 d; omega) hfp
              refine r_12_follow_144 F hqp hqk hvt (fun z => ?_) (fun z => ?_) (fun z => ?_)
              · exact step A1 an mt fA h70 h69 (ls_old hg (fun y => z (cz.mpr y)))
              · have := ls_room hg (cz.mp z) ht
                exact vp_in_nI (by omega) (by omega)
              · have hm54 := ls_room hg (cz.mp z) ht
                rw [nI_1, nI_clamp (by omega)]
                refine step _ (va_up an mt t) (mt + 1) (fun p p1 p2 => by rw [up1_p p2]; exact fA p p1 p2) (fun j hj => ?_) (fun j hj => by rw [up1_p (by decide)]; exact h69 j hj) (ls_new hg (cz.mp z) ht hmp)
                rw [up1_s]
                by_cases y : j = mt
                · rw [y, upd_in, va_s]
                · rw [upd_out y, va_n y]; exact h70 j (by omega)
          refine l113 21 0 A1 _ g an mt rfl fA (fun p p1 p2 p3 => by rw [up1_p p1]; exact fJ p p1 p2 p3) (fun m hm => by rw [up1_s]; exact ul_l h65 rfl m hm) (fun m hm => by rw [up1_p (by decide)]; exact h66 m hm) h70 h69 hg (fun W W' T hq => ?_) (fun j hj => by rw [up1_p q65]; exact hres j hj)
          have h1 := hq9 W W' T hq
          have h2 := QQ_c L s r W W' T hq (ac i) hkk
          have h3 := phi_up (W := W') (f := f) (t := ac i) (v := 0) hlt
          rw [h2]
          omega
      refine l77 many 0 A1 J1 f (fun _ => 0) (fun _ => 0) 0 (Nat.zero_add _) fA fJ h65 h66 (fun j hj => absurd hj (by omega)) h69 hl ⟨fun j _ hj => absurd hj (by omega), fun j _ _ hj => absurd hj (by omega), fun m hm => absurd rfl hm⟩ (fun W W' T hq => ?_) hres
      rw [phi_z (f := fun _ => 0) (fun _ => rfl), Nat.add_zero]; exact hgo W W' T hq
  have zl : ∀ e k (J1 : Nat → Nat → Int64), k + e = 54264 → (∀ p, p ≠ 65 → J1 p = J p) → (∀ j, j < k → J1 65 j = 0) → WA X (mS I A J1) plM 0 0 3 [(0, .ref 0), (1, .int (nI s)), (2, .int (nI n)), (3, .ref q), (4, .int (nI k))] [] := by
    intro e
    induction e with
    | zero =>
      intro k J1 hk fJ hz
      obtain rfl : k = 54264 := by omega
      have c : (54264 : Int32) ≤ nI 54264 := by decide
      have go : ∀ x, x = lN (wN 0 s) → WA X (mS I (up1 A 69 (upd (A 69) 0 (nI (num s)))) (up1 (up1 J1 65 (vp_updL (J1 65) (num s) 1)) q (vp_updL ((up1 J1 65 (vp_updL (J1 65) (num s) 1)) q) 0 x))) plM 0 0 65 [(0, .ref 0), (1, .int (nI s)), (2, .int (nI n)), (3, .ref q), (4, .int (nI (num s))), (5, .int 1), (6, .int 1)] [] := fun x hx => by
        refine rounds n 1 _ _ (va_up (fun _ => 0) (num s) 1) (fun _ => num s) 1 _ (by omega) (Nat.le_refl _) (fun p p1 p2 => by rw [up1_p p1]) (fun p p1 p2 p3 => by rw [up1_p p3, up1_p p1]; exact fJ p p1) (fun m hm => ?_) (fun m hm => ?_) (fun j hj => ?_) ⟨fun j _ hj => ⟨⟨s, hs, hp, rfl⟩, by rw [va_s]; decide⟩, fun i j _ h1 _ h2 _ => by omega, fun m hm => ?_⟩ (fw_st hs) (fun j hj => ?_)
        · rw [up1_p (fun z => q65 z.symm), up1_s]
          exact ul_l (N := 54264) (fun m hm => hz m hm) rfl m hm
        · rw [up1_p (fun z => q66 z.symm), up1_p (by decide), fJ 66 (by decide)]; exact hj m hm
        · have z : j = 0 := by omega
          rw [up1_s, z, upd_in]
        · by_cases z : m = num s
          · exact ⟨0, by omega, by omega, z.symm⟩
          · rw [va_n z] at hm; exact absurd rfl hm
        · have z : j = 0 := by omega
          rw [up1_s, z, ul_in]; exact hx
      refine r_12_follow_3 F hqp hqk (fun _ => (std_n (by omega)).mpr hs) (fun _ => hch) (fun _ => by rw [en]; exact vp_in_nI (by omega) (by omega)) (fun _ => vp_in_nI (n := 0) (by omega) (by omega)) (fun _ _ => by rw [hqn]; exact vp_in_nI (n := 0) (by omega) (by omega)) (fun _ z => ?_) (fun _ _ => by rw [hqn]; exact vp_in_nI (n := 0) (by omega) (by omega)) (fun _ z => ?_) (fun z => absurd c z) (fun z => absurd c z)
      · rw [en, nI_clamp (by omega)]
        exact go 0 (by show (0 : Int64) = lN (if s = 0 then 1 else 0); rw [if_neg (fun y => z (by rw [y]; rfl))]; rfl)
      · rw [en, nI_clamp (by omega)]
        exact go 1 (by show (1 : Int64) = lN (if s = 0 then 1 else 0); rw [if_pos ((nI_z (by omega)).mp z)]; rfl)
    | succ e ih =>
      intro k J1 hk fJ hz
      have c : ¬ (54264 : Int32) ≤ nI k := nI_ge (b := 54264) (by omega) (by omega)
      refine r_12_follow_3 F hqp hqk (fun z => absurd z c) (fun z => absurd z c) (fun z => absurd z c) (fun z => absurd z c) (fun z => absurd z c) (fun z => absurd z c) (fun z => absurd z c) (fun z => absurd z c) (fun _ => vp_in_nI (by omega) (by omega)) (fun _ => ?_)
      rw [nI_1, nI_clamp (by omega)]
      refine ih (k + 1) _ (by omega) (fun p p1 => by rw [up1_p p1]; exact fJ p p1) (fun j hj => ?_)
      rw [up1_s]
      by_cases z : j = k
      · rw [z, ul_in]
      · rw [ul_out z]; exact hz j (by omega)
  exact r_12_follow_0 F hqp hqk (zl 54264 0 J (Nat.zero_add _) (fun _ _ => rfl) (fun j hj => absurd hj (by omega)))
