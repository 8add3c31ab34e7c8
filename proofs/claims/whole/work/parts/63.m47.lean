theorem r_12_learn_0 {X : Ctx} (F : Fx X cX12_learn RX12 10 5 0 0) {Φ : Option Value → HS → List Nat → Prop} (E : Ex X (some .int) 0 0 Φ) {I A : Nat → Nat → Int32} {J : Nat → Nat → Int64}
    (e_1 : (90 ≤ (I 0 55)) → Φ (some (.int 0)) (mS (up2 (up2 I 0 0 0) 0 0 (1 : Int32)) A J) plM)
    (e_2 : (¬ (90 ≤ (I 0 55))) → WA X (mS (up2 I 0 0 0) A J) plM 0 0 30 [(0, .ref 0)] [.ref 0]) :
    WA X (mS I A J) plM 0 0 0 [(0, .ref 0)] [] := by
  refine a_aload_n F 0 dX12_learn_0 rfl rfl ?_
  refine a_iconst (v := 0) F dX12_learn_1 (by decide) ?_
  refine a_puti F fl_12_1 rfl rfl rfl rfl (by decide) rfl dX12_learn_2 ?_
  refine a_aload_n F 0 dX12_learn_5 rfl rfl ?_
  refine a_aload_n F 0 dX12_learn_6 rfl rfl ?_
  refine a_geti F fl_12_173 rfl (by decide) rfl dX12_learn_7 ?_
  refine a_bipush (v := 90) F dX12_learn_10 (by decide) ?_
  refine a_icmp_ge (tgt := 19) F dX12_learn_12 (by decide) (fun (c_1 : 90 ≤ (I 0 55)) => ?_) (fun (c_1 : ¬ (90 ≤ (I 0 55))) => ?_)
  · refine a_iconst (v := 0) F dX12_learn_19 (by decide) ?_
    refine a_iconst (v := 1) F dX12_learn_20 (by decide) ?_
    refine a_callV (b := 0) (As := [.int 0, .int 1]) (st := []) (ci := 12) F (c_may0 (xl X) (up2 I 0 0 0) A J (1 : Int32) (by decide) rfl) ml_12_155 im_yX12_may se_yX12_may (by decide) (by decide) rfl (by decide) rfl rfl dX12_learn_21 (by decide) (Nat.le_refl 0) (Nat.le_refl 0) (hl_r (by decide) hl_nil) hs_nil ?_
    rintro _ _ _ ⟨rfl, rfl, rfl⟩ _
    show WA X (mS (up2 (up2 I 0 0 0) 0 0 (1 : Int32)) A J) plM 0 0 24 [(0, .ref 0)] [.int 0]
    refine a_if_ne (tgt := 29) F dX12_learn_24 (by decide) (fun (c_2 : ¬ (0 : Int32) = 0) => ?_) (fun (c_2 : (0 : Int32) = 0) => ?_)
    · exact absurd c_2 (by decide)
    · refine a_iconst (v := 0) F dX12_learn_27 (by decide) ?_
      exact a_iret F E dX12_learn_28 (Nat.le_refl 0) (Nat.le_refl 0) (e_1 c_1)
  · refine a_iconst (v := 1) F dX12_learn_15 (by decide) ?_
    refine a_goto (tgt := 20) F dX12_learn_16 (by decide) ?_
    refine a_iconst (v := 1) F dX12_learn_20 (by decide) ?_
    refine a_callV (b := 0) (As := [.int 1, .int 1]) (st := []) (ci := 12) F (c_may1 (xl X) (up2 I 0 0 0) A J (1 : Int32) (by decide) rfl) ml_12_155 im_yX12_may se_yX12_may (by decide) (by decide) rfl (by decide) rfl rfl dX12_learn_21 (by decide) (Nat.le_refl 0) (Nat.le_refl 0) (hl_r (by decide) hl_nil) hs_nil ?_
    rintro _ _ _ ⟨rfl, rfl, rfl⟩ _
    show WA X (mS (up2 I 0 0 0) A J) plM 0 0 24 [(0, .ref 0)] [.int 1]
    refine a_if_ne (tgt := 29) F dX12_learn_24 (by decide) (fun (c_3 : ¬ (1 : Int32) = 0) => ?_) (fun (c_3 : (1 : Int32) = 0) => ?_)
    · refine a_aload_n F 0 dX12_learn_29 rfl rfl ?_
      exact e_2 c_1
    · exact absurd c_3 (by decide)

theorem r_12_learn_33 {X : Ctx} (F : Fx X cX12_learn RX12 10 5 0 0) {I A : Nat → Nat → Int32} {J : Nat → Nat → Int64}
    (e_1 : WA X (mS I A J) plM 0 0 44 [(0, .ref 0), (1, .int ((I 0 55) + 1)), (2, .int 0), (3, .int 0)] []) :
    WA X (mS I A J) plM 0 0 33 [(0, .ref 0)] [] := by
  refine a_aload_n F 0 dX12_learn_33 rfl rfl ?_
  refine a_geti F fl_12_173 rfl (by decide) rfl dX12_learn_34 ?_
  refine a_iconst (v := 1) F dX12_learn_37 (by decide) ?_
  refine a_iadd F dX12_learn_38 ?_
  refine a_istore_n F dX12_learn_39 rfl (by decide) rfl ?_
  refine a_iconst (v := 0) F dX12_learn_40 (by decide) ?_
  refine a_istore_n F dX12_learn_41 rfl (by decide) rfl ?_
  refine a_iconst (v := 0) F dX12_learn_42 (by decide) ?_
  refine a_istore_n F dX12_learn_43 rfl (by decide) rfl ?_
  refine a_sub [3, 2, 1, 0] rfl ?_
  exact e_1

theorem r_12_learn_44 {X : Ctx} (F : Fx X cX12_learn RX12 10 5 0 0) {Φ : Option Value → HS → List Nat → Prop} (E : Ex X (some .int) 0 0 Φ) {I A : Nat → Nat → Int32} {J : Nat → Nat → Int64} {x1 x2 x3 : Int32}
    (e_1 : (15 < x3) → Φ (some (.int x2)) (mS (up2 I 0 55 x1) A J) plM)
    (e_2 : (¬ (15 < x3)) → (x1 < (6 * x3)) → Φ (some (.int x2)) (mS (up2 I 0 55 x1) A J) plM)
    (e_3 : (¬ (15 < x3)) → (¬ (x1 < (6 * x3))) → WA X (mS I A J) plM 0 0 61 [(0, .ref 0), (1, .int x1), (2, .int x2), (3, .int x3), (4, .int 0)] []) :
    WA X (mS I A J) plM 0 0 44 [(0, .ref 0), (1, .int x1), (2, .int x2), (3, .int x3)] [] := by
  refine a_iload_n F 3 dX12_learn_44 rfl rfl ?_
  refine a_bipush (v := 15) F dX12_learn_45 (by decide) ?_
  refine a_icmp_gt (tgt := 304) F dX12_learn_47 (by decide) (fun (c_4 : 15 < x3) => ?_) (fun (c_4 : ¬ (15 < x3)) => ?_)
  · refine a_aload_n F 0 dX12_learn_304 rfl rfl ?_
    refine a_iload_n F 1 dX12_learn_305 rfl rfl ?_
    refine a_puti F fl_12_173 rfl rfl rfl rfl (by decide) rfl dX12_learn_306 ?_
    refine a_iload_n F 2 dX12_learn_309 rfl rfl ?_
    exact a_iret F E dX12_learn_310 (Nat.le_refl 0) (Nat.le_refl 0) (e_1 c_4)
  · refine a_bipush (v := 6) F dX12_learn_50 (by decide) ?_
    refine a_iload_n F 3 dX12_learn_52 rfl rfl ?_
    refine a_imul F dX12_learn_53 ?_
    refine a_iload_n F 1 dX12_learn_54 rfl rfl ?_
    refine a_icmp_gt (tgt := 304) F dX12_learn_55 (by decide) (fun (c_5 : x1 < (6 * x3)) => ?_) (fun (c_5 : ¬ (x1 < (6 * x3))) => ?_)
    · refine a_aload_n F 0 dX12_learn_304 rfl rfl ?_
      refine a_iload_n F 1 dX12_learn_305 rfl rfl ?_
      refine a_puti F fl_12_173 rfl rfl rfl rfl (by decide) rfl dX12_learn_306 ?_
      refine a_iload_n F 2 dX12_learn_309 rfl rfl ?_
      exact a_iret F E dX12_learn_310 (Nat.le_refl 0) (Nat.le_refl 0) (e_2 c_4 c_5)
    · refine a_iconst (v := 0) F dX12_learn_58 (by decide) ?_
      refine a_istore F dX12_learn_59 (by decide) rfl ?_
      refine a_sub [1, 2, 3, 4, 0] rfl ?_
      exact e_3 c_4 c_5

theorem r_12_learn_61 {X : Ctx} (F : Fx X cX12_learn RX12 10 5 0 0) {I A : Nat → Nat → Int32} {J : Nat → Nat → Int64} {x1 x2 x3 x4 : Int32}
    (e_1 : (15 < (x4 + x3)) → WA X (mS I A J) plM 0 0 44 [(0, .ref 0), (1, .int x1), (2, .int x2), (3, .int (x3 + 1))] [])
    (e_2 : (¬ (15 < (x4 + x3))) → (x1 < ((6 * x3) + (5 * x4))) → WA X (mS I A J) plM 0 0 44 [(0, .ref 0), (1, .int x1), (2, .int x2), (3, .int (x3 + 1))] [])
    (e_3 : (¬ (15 < (x4 + x3))) → (¬ (x1 < ((6 * x3) + (5 * x4)))) → WA X (mS I A J) plM 0 0 86 [(0, .ref 0), (1, .int x1), (2, .int x2), (3, .int x3), (4, .int x4), (5, .int 0)] []) :
    WA X (mS I A J) plM 0 0 61 [(0, .ref 0), (1, .int x1), (2, .int x2), (3, .int x3), (4, .int x4)] [] := by
  refine a_iload F 4 dX12_learn_61 rfl ?_
  refine a_iload_n F 3 dX12_learn_63 rfl rfl ?_
  refine a_iadd F dX12_learn_64 ?_
  refine a_bipush (v := 15) F dX12_learn_65 (by decide) ?_
  refine a_icmp_gt (tgt := 298) F dX12_learn_67 (by decide) (fun (c_6 : 15 < (x4 + x3)) => ?_) (fun (c_6 : ¬ (15 < (x4 + x3))) => ?_)
  · refine a_iinc (v := x3 + 1) F 3 dX12_learn_298 rfl rfl (by decide) rfl ?_
    refine a_goto (tgt := 44) F dX12_learn_301 (by decide) ?_
    refine a_sub [1, 2, 3, 0] rfl ?_
    exact e_1 c_6
  · refine a_bipush (v := 6) F dX12_learn_70 (by decide) ?_
    refine a_iload_n F 3 dX12_learn_72 rfl rfl ?_
    refine a_imul F dX12_learn_73 ?_
    refine a_iconst (v := 5) F dX12_learn_74 (by decide) ?_
    refine a_iload F 4 dX12_learn_75 rfl ?_
    refine a_imul F dX12_learn_77 ?_
    refine a_iadd F dX12_learn_78 ?_
    refine a_iload_n F 1 dX12_learn_79 rfl rfl ?_
    refine a_icmp_gt (tgt := 298) F dX12_learn_80 (by decide) (fun (c_7 : x1 < ((6 * x3) + (5 * x4))) => ?_) (fun (c_7 : ¬ (x1 < ((6 * x3) + (5 * x4)))) => ?_)
    · refine a_iinc (v := x3 + 1) F 3 dX12_learn_298 rfl rfl (by decide) rfl ?_
      refine a_goto (tgt := 44) F dX12_learn_301 (by decide) ?_
      refine a_sub [1, 2, 3, 0] rfl ?_
      exact e_2 c_6 c_7
    · refine a_iconst (v := 0) F dX12_learn_83 (by decide) ?_
      refine a_istore F dX12_learn_84 (by decide) rfl ?_
      refine a_sub [1, 2, 3, 4, 5, 0] rfl ?_
      exact e_3 c_6 c_7

theorem r_12_learn_86 {X : Ctx} (F : Fx X cX12_learn RX12 10 5 0 0) {I A : Nat → Nat → Int32} {J : Nat → Nat → Int64} {x1 x2 x3 x4 x5 : Int32}
    (e_1 : (15 < ((x5 + x4) + x3)) → WA X (mS I A J) plM 0 0 61 [(0, .ref 0), (1, .int x1), (2, .int x2), (3, .int x3), (4, .int (x4 + 1))] [])
    (e_2 : (¬ (15 < ((x5 + x4) + x3))) → (x1 < (((6 * x3) + (5 * x4)) + (4 * x5))) → WA X (mS I A J) plM 0 0 61 [(0, .ref 0), (1, .int x1), (2, .int x2), (3, .int x3), (4, .int (x4 + 1))] [])
    (e_3 : (¬ (15 < ((x5 + x4) + x3))) → (¬ (x1 < (((6 * x3) + (5 * x4)) + (4 * x5)))) → WA X (mS I A J) plM 0 0 119 [(0, .ref 0), (1, .int x1), (2, .int x2), (3, .int x3), (4, .int x4), (5, .int x5), (6, .int 0)] []) :
    WA X (mS I A J) plM 0 0 86 [(0, .ref 0), (1, .int x1), (2, .int x2), (3, .int x3), (4, .int x4), (5, .int x5)] [] := by
  refine a_iload F 5 dX12_learn_86 rfl ?_
  refine a_iload F 4 dX12_learn_88 rfl ?_
  refine a_iadd F dX12_learn_90 ?_
  refine a_iload_n F 3 dX12_learn_91 rfl rfl ?_
  refine a_iadd F dX12_learn_92 ?_
  refine a_bipush (v := 15) F dX12_learn_93 (by decide) ?_
  refine a_icmp_gt (tgt := 292) F dX12_learn_95 (by decide) (fun (c_8 : 15 < ((x5 + x4) + x3)) => ?_) (fun (c_8 : ¬ (15 < ((x5 + x4) + x3))) => ?_)
  · refine a_iinc (v := x4 + 1) F 4 dX12_learn_292 rfl rfl (by decide) rfl ?_
    refine a_goto (tgt := 61) F dX12_learn_295 (by decide) ?_
    refine a_sub [1, 2, 3, 4, 0] rfl ?_
    exact e_1 c_8
  · refine a_bipush (v := 6) F dX12_learn_98 (by decide) ?_
    refine a_iload_n F 3 dX12_learn_100 rfl rfl ?_
    refine a_imul F dX12_learn_101 ?_
    refine a_iconst (v := 5) F dX12_learn_102 (by decide) ?_
    refine a_iload F 4 dX12_learn_103 rfl ?_
    refine a_imul F dX12_learn_105 ?_
    refine a_iadd F dX12_learn_106 ?_
    refine a_iconst (v := 4) F dX12_learn_107 (by decide) ?_
    refine a_iload F 5 dX12_learn_108 rfl ?_
    refine a_imul F dX12_learn_110 ?_
    refine a_iadd F dX12_learn_111 ?_
    refine a_iload_n F 1 dX12_learn_112 rfl rfl ?_
    refine a_icmp_gt (tgt := 292) F dX12_learn_113 (by decide) (fun (c_9 : x1 < (((6 * x3) + (5 * x4)) + (4 * x5))) => ?_) (fun (c_9 : ¬ (x1 < (((6 * x3) + (5 * x4)) + (4 * x5)))) => ?_)
    · refine a_iinc (v := x4 + 1) F 4 dX12_learn_292 rfl rfl (by decide) rfl ?_
      refine a_goto (tgt := 61) F dX12_learn_295 (by decide) ?_
      refine a_sub [1, 2, 3, 4, 0] rfl ?_
      exact e_2 c_8 c_9
    · refine a_iconst (v := 0) F dX12_learn_116 (by decide) ?_
      refine a_istore F dX12_learn_117 (by decide) rfl ?_
      refine a_sub [1, 2, 3, 4, 5, 6, 0] rfl ?_
      exact e_3 c_8 c_9

theorem r_12_learn_119 {X : Ctx} (F : Fx X cX12_learn RX12 10 5 0 0) {I A : Nat → Nat → Int32} {J : Nat → Nat → Int64} {x1 x2 x3 x4 x5 x6 : Int32}
    (e_1 : (15 < (((x6 + x5) + x4) + x3)) → WA X (mS I A J) plM 0 0 86 [(0, .ref 0), (1, .int x1), (2, .int x2), (3, .int x3), (4, .int x4), (5, .int (x5 + 1))] [])
    (e_2 : (¬ (15 < (((x6 + x5) + x4) + x3))) → (x1 < ((((6 * x3) + (5 * x4)) + (4 * x5)) + (3 * x6))) → WA X (mS I A J) plM 0 0 86 [(0, .ref 0), (1, .int x1), (2, .int x2), (3, .int x3), (4, .int x4), (5, .int (x5 + 1))] [])
    (e_3 : (¬ (15 < (((x6 + x5) + x4) + x3))) → (¬ (x1 < ((((6 * x3) + (5 * x4)) + (4 * x5)) + (3 * x6)))) → WA X (mS I A J) plM 0 0 198 [(0, .ref 0), (1, .int x1), (2, .int x2), (3, .int x3), (4, .int x4), (5, .int x5), (6, .int x6), (7, .int ((((x1 - (6 * x3)) - (5 * x4)) - (4 * x5)) - (3 * x6))), (8, .int ((((15 - x6) - x5) - x4) - x3)), (9, .int 0)] []) :
    WA X (mS I A J) plM 0 0 119 [(0, .ref 0), (1, .int x1), (2, .int x2), (3, .int x3), (4, .int x4), (5, .int x5), (6, .int x6)] [] := by
  refine a_iload F 6 dX12_learn_119 rfl ?_
  refine a_iload F 5 dX12_learn_121 rfl ?_
  refine a_iadd F dX12_learn_123 ?_
  refine a_iload F 4 dX12_learn_124 rfl ?_
  refine a_iadd F dX12_learn_126 ?_
  refine a_iload_n F 3 dX12_learn_127 rfl rfl ?_
  refine a_iadd F dX12_learn_128 ?_
  refine a_bipush (v := 15) F dX12_learn_129 (by decide) ?_
  refine a_icmp_gt (tgt := 286) F dX12_learn_131 (by decide) (fun (c_10 : 15 < (((x6 + x5) + x4) + x3)) => ?_) (fun (c_10 : ¬ (15 < (((x6 + x5) + x4) + x3))) => ?_)
  · refine a_iinc (v := x5 + 1) F 5 dX12_learn_286 rfl rfl (by decide) rfl ?_
    refine a_goto (tgt := 86) F dX12_learn_289 (by decide) ?_
    refine a_sub [1, 2, 3, 4, 5, 0] rfl ?_
    exact e_1 c_10
  · refine a_bipush (v := 6) F dX12_learn_134 (by decide) ?_
    refine a_iload_n F 3 dX12_learn_136 rfl rfl ?_
    refine a_imul F dX12_learn_137 ?_
    refine a_iconst (v := 5) F dX12_learn_138 (by decide) ?_
    refine a_iload F 4 dX12_learn_139 rfl ?_
    refine a_imul F dX12_learn_141 ?_
    refine a_iadd F dX12_learn_142 ?_
    refine a_iconst (v := 4) F dX12_learn_143 (by decide) ?_
    refine a_iload F 5 dX12_learn_144 rfl ?_
    refine a_imul F dX12_learn_146 ?_
    refine a_iadd F dX12_learn_147 ?_
    refine a_iconst (v := 3) F dX12_learn_148 (by decide) ?_
    refine a_iload F 6 dX12_learn_149 rfl ?_
    refine a_imul F dX12_learn_151 ?_
    refine a_iadd F dX12_learn_152 ?_
    refine a_iload_n F 1 dX12_learn_153 rfl rfl ?_
    refine a_icmp_gt (tgt := 286) F dX12_learn_154 (by decide) (fun (c_11 : x1 < ((((6 * x3) + (5 * x4)) + (4 * x5)) + (3 * x6))) => ?_) (fun (c_11 : ¬ (x1 < ((((6 * x3) + (5 * x4)) + (4 * x5)) + (3 * x6)))) => ?_)
    · refine a_iinc (v := x5 + 1) F 5 dX12_learn_286 rfl rfl (by decide) rfl ?_
      refine a_goto (tgt := 86) F dX12_learn_289 (by decide) ?_
      refine a_sub [1, 2, 3, 4, 5, 0] rfl ?_
      exact e_2 c_10 c_11
    · refine a_iload_n F 1 dX12_learn_157 rfl rfl ?_
      refine a_bipush (v := 6) F dX12_learn_158 (by decide) ?_
      refine a_iload_n F 3 dX12_learn_160 rfl rfl ?_
      refine a_imul F dX12_learn_161 ?_
      refine a_isub F dX12_learn_162 ?_
      refine a_iconst (v := 5) F dX12_learn_163 (by decide) ?_
      refine a_iload F 4 dX12_learn_164 rfl ?_
      refine a_imul F dX12_learn_166 ?_
      refine a_isub F dX12_learn_167 ?_
      refine a_iconst (v := 4) F dX12_learn_168 (by decide) ?_
      refine a_iload F 5 dX12_learn_169 rfl ?_
      refine a_imul F dX12_learn_171 ?_
      refine a_isub F dX12_learn_172 ?_
      refine a_iconst (v := 3) F dX12_learn_173 (by decide) ?_
      refine a_iload F 6 dX12_learn_174 rfl ?_
      refine a_imul F dX12_learn_176 ?_
      refine a_isub F dX12_learn_177 ?_
      refine a_istore F dX12_learn_178 (by decide) rfl ?_
      refine a_bipush (v := 15) F dX12_learn_180 (by decide) ?_
      refine a_iload F 7 dX12_learn_182 rfl ?_
      refine a_isub F dX12_learn_184 ?_
      refine a_iload F 6 dX12_learn_185 rfl ?_
      refine a_isub F dX12_learn_187 ?_
      refine a_iload F 5 dX12_learn_188 rfl ?_
      refine a_isub F dX12_learn_190 ?_
      refine a_iload_n F 4 dX12_learn_191 rfl rfl ?_
      refine a_isub F dX12_learn_192 ?_
      refine a_istore F dX12_learn_193 (by decide) rfl ?_
      refine a_iconst (v := 0) F dX12_learn_195 (by decide) ?_
      refine a_istore F dX12_learn_196 (by decide) rfl ?_
      refine a_sub [3, 4, 5, 6, 7, 8, 9, 2, 1, 0] rfl ?_
      exact e_3 c_10 c_11

theorem r_12_learn_198 {X : Ctx} (F : Fx X cX12_learn RX12 10 5 0 0) {I A : Nat → Nat → Int32} {J : Nat → Nat → Int64} {x1 x2 x3 x4 x5 x6 x7 x8 x9 : Int32}
    (e_1 : (x8 < x9) → WA X (mS I A J) plM 0 0 119 [(0, .ref 0), (1, .int x1), (2, .int x2), (3, .int x3), (4, .int x4), (5, .int x5), (6, .int (x6 + 1))] [])
    (e_2 : (¬ (x8 < x9)) → (x7 < (2 * x9)) → WA X (mS I A J) plM 0 0 119 [(0, .ref 0), (1, .int x1), (2, .int x2), (3, .int x3), (4, .int x4), (5, .int x5), (6, .int (x6 + 1))] [])
    (e_3 : (¬ (x8 < x9)) → (¬ (x7 < (2 * x9))) → (((x9 + x7) - (2 * x9)) ≤ x8) → WA X (mS I A J) plM 0 0 268 [(0, .ref 0), (1, .int x1), (2, .int x2), (3, .int x3), (4, .int x4), (5, .int x5), (6, .int x6), (7, .int x7), (8, .int x8), (9, .int x9)] [.int ((((((x3 <<< (20 &&& 31)) ||| (x4 <<< (16 &&& 31))) ||| (x5 <<< (12 &&& 31))) ||| (x6 <<< (8 &&& 31))) ||| (x9 <<< (4 &&& 31))) ||| (x7 - (2 * x9))), .ref 0])
    (e_4 : (¬ (x8 < x9)) → (¬ (x7 < (2 * x9))) → (¬ (((x9 + x7) - (2 * x9)) ≤ x8)) → WA X (mS I A J) plM 0 0 198 [(0, .ref 0), (1, .int x1), (2, .int x2), (3, .int x3), (4, .int x4), (5, .int x5), (6, .int x6), (7, .int x7), (8, .int x8), (9, .int (x9 + 1))] []) :
    WA X (mS I A J) plM 0 0 198 [(0, .ref 0), (1, .int x1), (2, .int x2), (3, .int x3), (4, .int x4), (5, .int x5), (6, .int x6), (7, .int x7), (8, .int x8), (9, .int x9)] [] := by
  refine a_iload F 9 dX12_learn_198 rfl ?_
  refine a_iload F 8 dX12_learn_200 rfl ?_
  refine a_icmp_gt (tgt := 280) F dX12_learn_202 (by decide) (fun (c_12 : x8 < x9) => ?_) (fun (c_12 : ¬ (x8 < x9)) => ?_)
  · refine a_iinc (v := x6 + 1) F 6 dX12_learn_280 rfl rfl (by decide) rfl ?_
    refine a_goto (tgt := 119) F dX12_learn_283 (by decide) ?_
    refine a_sub [1, 2, 3, 4, 5, 6, 0] rfl ?_
    exact e_1 c_12
  · refine a_iconst (v := 2) F dX12_learn_205 (by decide) ?_
    refine a_iload F 9 dX12_learn_206 rfl ?_
    refine a_imul F dX12_learn_208 ?_
    refine a_iload F 7 dX12_learn_209 rfl ?_
    refine a_icmp_gt (tgt := 280) F dX12_learn_211 (by decide) (fun (c_13 : x7 < (2 * x9)) => ?_) (fun (c_13 : ¬ (x7 < (2 * x9))) => ?_)
    · refine a_iinc (v := x6 + 1) F 6 dX12_learn_280 rfl rfl (by decide) rfl ?_
      refine a_goto (tgt := 119) F dX12_learn_283 (by decide) ?_
      refine a_sub [1, 2, 3, 4, 5, 6, 0] rfl ?_
      exact e_2 c_12 c_13
    · refine a_iload F 9 dX12_learn_214 rfl ?_
      refine a_iload F 7 dX12_learn_216 rfl ?_
      refine a_iadd F dX12_learn_218 ?_
      refine a_iconst (v := 2) F dX12_learn_219 (by decide) ?_
      refine a_iload F 9 dX12_learn_220 rfl ?_
      refine a_imul F dX12_learn_222 ?_
      refine a_isub F dX12_learn_223 ?_
      refine a_iload F 8 dX12_learn_224 rfl ?_
      refine a_icmp_le (tgt := 232) F dX12_learn_226 (by decide) (fun (c_14 : ((x9 + x7) - (2 * x9)) ≤ x8) => ?_) (fun (c_14 : ¬ (((x9 + x7) - (2 * x9)) ≤ x8)) => ?_)
      · refine a_aload_n F 0 dX12_learn_232 rfl rfl ?_
        refine a_iload_n F 3 dX12_learn_233 rfl rfl ?_
        refine a_bipush (v := 20) F dX12_learn_234 (by decide) ?_
        refine a_ishl F dX12_learn_236 ?_
        refine a_iload F 4 dX12_learn_237 rfl ?_
        refine a_bipush (v := 16) F dX12_learn_239 (by decide) ?_
        refine a_ishl F dX12_learn_241 ?_
        refine a_ior F dX12_learn_242 ?_
        refine a_iload F 5 dX12_learn_243 rfl ?_
        refine a_bipush (v := 12) F dX12_learn_245 (by decide) ?_
        refine a_ishl F dX12_learn_247 ?_
        refine a_ior F dX12_learn_248 ?_
        refine a_iload F 6 dX12_learn_249 rfl ?_
        refine a_bipush (v := 8) F dX12_learn_251 (by decide) ?_
        refine a_ishl F dX12_learn_253 ?_
        refine a_ior F dX12_learn_254 ?_
        refine a_iload F 9 dX12_learn_255 rfl ?_
        refine a_iconst (v := 4) F dX12_learn_257 (by decide) ?_
        refine a_ishl F dX12_learn_258 ?_
        refine a_ior F dX12_learn_259 ?_
        refine a_iload F 7 dX12_learn_260 rfl ?_
        refine a_iconst (v := 2) F dX12_learn_262 (by decide) ?_
        refine a_iload F 9 dX12_learn_263 rfl ?_
        refine a_imul F dX12_learn_265 ?_
        refine a_isub F dX12_learn_266 ?_
        refine a_ior F dX12_learn_267 ?_
        exact e_3 c_12 c_13 c_14
      · refine a_goto (tgt := 274) F dX12_learn_229 (by decide) ?_
        refine a_iinc (v := x9 + 1) F 9 dX12_learn_274 rfl rfl (by decide) rfl ?_
        refine a_goto (tgt := 198) F dX12_learn_277 (by decide) ?_
        refine a_sub [1, 2, 3, 4, 5, 6, 7, 8, 9, 0] rfl ?_
        exact e_4 c_12 c_13 c_14

theorem r_12_learn_271 {X : Ctx} (F : Fx X cX12_learn RX12 10 5 0 0) {I A : Nat → Nat → Int32} {J : Nat → Nat → Int64} {x1 x2 x3 x4 x5 x6 x7 x8 x9 : Int32}
    (e_1 : WA X (mS I A J) plM 0 0 198 [(0, .ref 0), (1, .int x1), (2, .int (x2 + 1)), (3, .int x3), (4, .int x4), (5, .int x5), (6, .int x6), (7, .int x7), (8, .int x8), (9, .int (x9 + 1))] []) :
    WA X (mS I A J) plM 0 0 271 [(0, .ref 0), (1, .int x1), (2, .int x2), (3, .int x3), (4, .int x4), (5, .int x5), (6, .int x6), (7, .int x7), (8, .int x8), (9, .int x9)] [] := by
  refine a_iinc (v := x2 + 1) F 2 dX12_learn_271 rfl rfl (by decide) rfl ?_
  refine a_iinc (v := x9 + 1) F 9 dX12_learn_274 rfl rfl (by decide) rfl ?_
  refine a_goto (tgt := 198) F dX12_learn_277 (by decide) ?_
  refine a_sub [2, 3, 1, 4, 5, 6, 7, 8, 9, 0] rfl ?_
  exact e_1

set_option maxRecDepth 10000 in
theorem c_learn (l : Launch) (I A : Nat → Nat → Int32) (J : Nat → Nat → Int64) (L : Nat) (hb : boS I A L) : Con l 5 yX12_learn cX12_learn 10 (some .int) [.ref 0] (mS I A J) plM 0 0 (leaQ I A J L) := by
  refine Con.of (by decide) (Nat.le_of_ble_eq_true rfl) (fun X hX9 hn9 F E => ?_)
  have hL := hb.2.1
  by_cases c90 : 90 ≤ L
  · have h90 : (90 : Int32) ≤ I 0 55 := by rw [hb.1]; exact (nI_gen 90 (by omega) (by omega)).mpr c90
    refine r_12_learn_0 F E (fun _ => ⟨fun _ => ⟨rfl, by rw [up2_up2], rfl⟩, fun z => absurd z (by omega)⟩) (fun z => absurd h90 z)
  have h90 : ¬ (90 : Int32) ≤ I 0 55 := by rw [hb.1]; exact fun z => c90 ((nI_gen 90 (by omega) (by omega)).mp z)
  refine r_12_learn_0 F E (fun z => absurd z h90) (fun _ => ?_)
  have e56 : (up2 I 0 0 0) 0 56 = I 0 56 := u2n (by decide)
  refine a_callV (b := 0) (As := []) (st := []) (ci := 12) F (c_ready (xl X) (up2 I 0 0 0) A J (by
    rcases hb.2.2.1 with h | h
    · exact Or.inl (e56.trans h)
    · exact Or.inr ⟨e56.trans h.1, h.2⟩)) ml_12_369 im_yX12_ready se_yX12_ready (by decide) (by decide) rfl (by decide) rfl rfl dX12_learn_30 (by decide) (Nat.le_refl 0) (Nat.le_refl 0) (hl_r (by decide) hl_nil) hs_nil ?_
  rintro _ _ _ ⟨I0, A0, rfl, rfl, rfl, hr0, k1, k2, k3⟩ _
  show WA X (mS I0 A0 J) plM 0 0 33 [(0, .ref 0)] []
  refine r_12_learn_33 F ?_
  have e55 : I0 0 55 = nI L := by rw [k1 55 (by decide), u2n (by decide)]; exact hb.1
  rw [e55, nI_1]
  generalize hM : L + 1 = M
  have v0 : lnV I0 A0 I0 A0 M 0 0 0 0 0 := ⟨hr0, fun _ _ => rfl, fun _ _ _ _ _ _ => rfl, fun t ht hc => rd_dn ht k2 k3 hr0.2.2.2.2 (hb.2.2.2 t ht (by omega)), fun d1 d2 d3 d4 d5 d6 em ep hl => by unfold Lx at hl; omega⟩
  have fin : ∀ I1 A1, lnV I0 A0 I1 A1 M 16 0 0 0 0 → leaQ I A J L (some (.int (nI (cnt 6 15 M)))) (mS (up2 I1 0 55 (nI M)) A1 J) plM := fun I1 A1 hv => by
    refine ⟨fun z => absurd z c90, fun _ => ⟨_, A1, by rw [hM], rfl, rfl, ?_, ⟨?_, by omega, Or.inr ⟨?_, hv.1.2⟩, fun t ht hp => ?_⟩, fun k q1 q2 q3 q4 => ?_, fun q q1 q2 q3 q4 q5 q6 q7 => ?_⟩⟩
    · rw [u2n (by decide), hv.2.1 0 (by decide), k1 0 (by decide)]; exact u2s
    · rw [hM]; exact u2s
    · rw [u2n (by decide)]; exact hv.1.1
    · by_cases c : pipS t < M
      · exact hv.2.2.2.1 t ht c
      · obtain ⟨d1, d2, d3, d4, d5, d6, e, em, ep⟩ := st_dig ht
        rw [e]
        exact hv.2.2.2.2 d1 d2 d3 d4 d5 d6 em (by omega) (by unfold Lx; omega)
    · rw [u2n q2, hv.2.1 k q4, k1 k q3, u2n q1]
    · rw [hv.2.2.1 q q1 q2 q3 q6 q7, k2 q q3 q4 q5]
  have hM9 : M ≤ 90 := by omega
  have hM1 : 1 ≤ M := by omega
  clear k1 k2 k3 e55 e56 h90 c90 hM hb hL
  have l6 : ∀ f s6 I1 A1, s6 + f = 16 → lnV I0 A0 I1 A1 M s6 0 0 0 0 → WA X (mS I1 A1 J) plM 0 0 44 [(0, .ref 0), (1, .int (nI M)), (2, .int (nI (sumB (cnF 5 15 M) 0 s6))), (3, .int (nI s6))] [] := by
    intro f
    induction f with
    | zero =>
      intro s6 I1 A1 hf hv
      obtain rfl : s6 = 16 := by omega
      refine r_12_learn_44 F E (fun _ => ?_) (fun z => absurd (show (15 : Int32) < nI 16 by decide) z) (fun z => absurd (show (15 : Int32) < nI 16 by decide) z)
      rw [cnt_x (by omega) (Or.inl rfl)]
      exact fin I1 A1 hv
    | succ f ih6 =>
      intro s6 I1 A1 hf hv
      have c1 : ¬ (15 : Int32) < nI s6 := fun z => by have := (nI_gtn 15 (by omega) (by omega)).mp z; omega
      have c2 : nI M < 6 * nI s6 ↔ M < 6 * s6 := by rw [lit 6, pk_mul]; exact nI_ltI (by omega) (by omega)
      refine r_12_learn_44 F E (fun z => absurd z c1) (fun _ z => ?_) (fun _ z => ?_)
      · have h6 := c2.mp z
        rw [cnt_x (by omega) (Or.inr (by omega))]
        refine fin I1 A1 (lnV_u hv (fun d1 d2 d3 d4 d5 d6 em ep hlt => by unfold Lx at *; omega))
      have h6 : 6 * s6 ≤ M := Nat.le_of_not_lt (fun y => z (c2.mpr y))
      clear z c1 c2 fin
      obtain ⟨m5, hm5⟩ : ∃ m, m + s6 = 15 := ⟨15 - s6, by omega⟩
      obtain ⟨L5, hL5⟩ : ∃ m, m + 6 * s6 = M := ⟨M - 6 * s6, by omega⟩
      have e6 : cnF 5 15 M (0 + s6) = cnt 5 m5 L5 := by rw [Nat.zero_add]; exact cnF_e hm5 hL5
      generalize hB6 : sumB (cnF 5 15 M) 0 s6 = B6
      have ih6' : ∀ I1 A1 (v : Nat), v = B6 + cnt 5 m5 L5 → lnV I0 A0 I1 A1 M (s6 + 1) 0 0 0 0 → WA X (mS I1 A1 J) plM 0 0 44 [(0, .ref 0), (1, .int (nI M)), (2, .int (nI v)), (3, .int (nI s6 + 1))] [] := fun I1 A1 v ev hv => by
        rw [ev, ← hB6, ← e6, nI_1]; exact ih6 (s6 + 1) I1 A1 (by omega) hv
      clear ih6 hB6 e6 hf
      have l5 : ∀ f s5 I1 A1, s5 + f = m5 + 1 → lnV I0 A0 I1 A1 M s6 s5 0 0 0 → WA X (mS I1 A1 J) plM 0 0 61 [(0, .ref 0), (1, .int (nI M)), (2, .int (nI (B6 + sumB (cnF 4 m5 L5) 0 s5))), (3, .int (nI s6)), (4, .int (nI s5))] [] := by
        have ex : ∀ s5 I1 A1, s5 ≤ m5 + 1 → (s5 = m5 + 1 ∨ L5 < 5 * s5) → lnV I0 A0 I1 A1 M s6 s5 0 0 0 → WA X (mS I1 A1 J) plM 0 0 44 [(0, .ref 0), (1, .int (nI M)), (2, .int (nI (B6 + sumB (cnF 4 m5 L5) 0 s5))), (3, .int (nI s6 + 1))] [] := fun s5 I1 A1 h16 hc hv => by
          rw [cnt_x h16 hc]
          exact ih6' I1 A1 _ rfl (lnV_u hv (fun d1 d2 d3 d4 d5 d6 em ep hlt => by unfold Lx at *; omega))
        intro f
        induction f with
        | zero =>
          intro s5 I1 A1 hf hv
          have c1 : (15 : Int32) < nI s5 + nI s6 := by rw [nI_add]; exact (nI_gtn 15 (by omega) (by omega)).mpr (by omega)
          exact r_12_learn_61 F (fun _ => ex s5 I1 A1 (by omega) (Or.inl (by omega)) hv) (fun z => absurd c1 z) (fun z => absurd c1 z)
        | succ f ih5 =>
          intro s5 I1 A1 hf hv
          have c1 : ¬ (15 : Int32) < nI s5 + nI s6 := fun z => by rw [nI_add] at z; have := (nI_gtn 15 (by omega) (by omega)).mp z; omega
          have c2 : nI M < 6 * nI s6 + 5 * nI s5 ↔ L5 < 5 * s5 := by rw [lit 6, lit 5, pk_mul, pk_mul, nI_add, nI_ltI (by omega) (by omega)]; omega
          refine r_12_learn_61 F (fun z => absurd z c1) (fun _ z => ex s5 I1 A1 (by omega) (Or.inr (c2.mp z)) hv) (fun _ z => ?_)
          have h5 : 5 * s5 ≤ L5 := Nat.le_of_not_lt (fun y => z (c2.mpr y))
          clear z ex c1 c2
          obtain ⟨m4, hm4⟩ : ∃ m, m + s5 = m5 := ⟨m5 - s5, by omega⟩
          obtain ⟨L4, hL4⟩ : ∃ m, m + 5 * s5 = L5 := ⟨L5 - 5 * s5, by omega⟩
          have e5 : cnF 4 m5 L5 (0 + s5) = cnt 4 m4 L4 := by rw [Nat.zero_add]; exact cnF_e hm4 hL4
          generalize hB5 : B6 + sumB (cnF 4 m5 L5) 0 s5 = B5
          have ih5' : ∀ I1 A1 (v : Nat), v = B5 + cnt 4 m4 L4 → lnV I0 A0 I1 A1 M s6 (s5 + 1) 0 0 0 → WA X (mS I1 A1 J) plM 0 0 61 [(0, .ref 0), (1, .int (nI M)), (2, .int (nI v)), (3, .int (nI s6)), (4, .int (nI s5 + 1))] [] := fun I1 A1 v ev hv => by
            rw [ev, ← hB5, ← e5, nI_1, Nat.add_assoc]; exact ih5 (s5 + 1) I1 A1 (by omega) hv
          clear ih5 hB5 e5 hf ih6'
          have l4 : ∀ f s4 I1 A1, s4 + f = m4 + 1 → lnV I0 A0 I1 A1 M s6 s5 s4 0 0 → WA X (mS I1 A1 J) plM 0 0 86 [(0, .ref 0), (1, .int (nI M)), (2, .int (nI (B5 + sumB (cnF 3 m4 L4) 0 s4))), (3, .int (nI s6)), (4, .int (nI s5)), (5, .int (nI s4))] [] := by
            have ex : ∀ s4 I1 A1, s4 ≤ m4 + 1 → (s4 = m4 + 1 ∨ L4 < 4 * s4) → lnV I0 A0 I1 A1 M s6 s5 s4 0 0 → WA X (mS I1 A1 J) plM 0 0 61 [(0, .ref 0), (1, .int (nI M)), (2, .int (nI (B5 + sumB (cnF 3 m4 L4) 0 s4))), (3, .int (nI s6)), (4, .int (nI s5 + 1))] [] := fun s4 I1 A1 h16 hc hv => by
              rw [cnt_x h16 hc]
              exact ih5' I1 A1 _ rfl (lnV_u hv (fun d1 d2 d3 d4 d5 d6 em ep hlt => by unfold Lx at *; omega))
            intro f
            induction f with
            | zero =>
              intro s4 I1 A1 hf hv
              have c1 : (15 : Int32) < nI s4 + nI s5 + nI s6 := by rw [nI_add, nI_add]; exact (nI_gtn 15 (by omega) (by omega)).mpr (by omega)
              exact r_12_learn_86 F (fun _ => ex s4 I1 A1 (by omega) (Or.inl (by omega)) hv) (fun z => absurd c1 z) (fun z => absurd c1 z)
            | succ f ih4 =>
              intro s4 I1 A1 hf hv
              have c1 : ¬ (15 : Int32) < nI s4 + nI s5 + nI s6 := fun z => by rw [nI_add, nI_add] at z; have := (nI_gtn 15 (by omega) (by omega)).mp z; omega
              have c2 : nI M < 6 * nI s6 + 5 * nI s5 + 4 * nI s4 ↔ L4 < 4 * s4 := by rw [lit 6, lit 5, lit 4, pk_mul, pk_mul, pk_mul, nI_add, nI_add, nI_ltI (by omega) (by omega)]; omega
              refine r_12_learn_86 F (fun z => absurd z c1) (fun _ z => ex s4 I1 A1 (by omega) (Or.inr (c2.mp z)) hv) (fun _ z => ?_)
              have h4 : 4 * s4 ≤ L4 := Nat.le_of_not_lt (fun y => z (c2.mpr y))
              clear z ex c1 c2
              obtain ⟨m3, hm3⟩ : ∃ m, m + s4 = m4 := ⟨m4 - s4, by omega⟩
              obtain ⟨L3, hL3⟩ : ∃ m, m + 4 * s4 = L4 := ⟨L4 - 4 * s4, by omega⟩
              have e4 : cnF 3 m4 L4 (0 + s4) = cnt 3 m3 L3 := by rw [Nat.zero_add]; exact cnF_e hm3 hL3
              generalize hB4 : B5 + sumB (cnF 3 m4 L4) 0 s4 = B4
              have ih4' : ∀ I1 A1 (v : Nat), v = B4 + cnt 3 m3 L3 → lnV I0 A0 I1 A1 M s6 s5 (s4 + 1) 0 0 → WA X (mS I1 A1 J) plM 0 0 86 [(0, .ref 0), (1, .int (nI M)), (2, .int (nI v)), (3, .int (nI s6)), (4, .int (nI s5)), (5, .int (nI s4 + 1))] [] := fun I1 A1 v ev hv => by
                rw [ev, ← hB4, ← e4, nI_1, Nat.add_assoc]; exact ih4 (s4 + 1) I1 A1 (by omega) hv
              clear ih4 hB4 e4 hf ih5'
              have l3 : ∀ f s3 I1 A1, s3 + f = m3 + 1 → lnV I0 A0 I1 A1 M s6 s5 s4 s3 0 → WA X (mS I1 A1 J) plM 0 0 119 [(0, .ref 0), (1, .int (nI M)), (2, .int (nI (B4 + sumB (cnF 2 m3 L3) 0 s3))), (3, .int (nI s6)), (4, .int (nI s5)), (5, .int (nI s4)), (6, .int (nI s3))] [] := by
                have ex : ∀ s3 I1 A1, s3 ≤ m3 + 1 → (s3 = m3 + 1 ∨ L3 < 3 * s3) → lnV I0 A0 I1 A1 M s6 s5 s4 s3 0 → WA X (mS I1 A1 J) plM 0 0 86 [(0, .ref 0), (1, .int (nI M)), (2, .int (nI (B4 + sumB (cnF 2 m3 L3) 0 s3))), (3, .int (nI s6)), (4, .int (nI s5)), (5, .int (nI s4 + 1))] [] := fun s3 I1 A1 h16 hc hv => by
                  rw [cnt_x h16 hc]
                  exact ih4' I1 A1 _ rfl (lnV_u hv (fun d1 d2 d3 d4 d5 d6 em ep hlt => by unfold Lx at *; omega))
                intro f
                induction f with
                | zero =>
                  intro s3 I1 A1 hf hv
                  have c1 : (15 : Int32) < nI s3 + nI s4 + nI s5 + nI s6 := by rw [nI_add, nI_add, nI_add]; exact (nI_gtn 15 (by omega) (by omega)).mpr (by omega)
                  exact r_12_learn_119 F (fun _ => ex s3 I1 A1 (by omega) (Or.inl (by omega)) hv) (fun z => absurd c1 z) (fun z => absurd c1 z)
                | succ f ih3 =>
                  intro s3 I1 A1 hf hv
                  have c1 : ¬ (15 : Int32) < nI s3 + nI s4 + nI s5 + nI s6 := fun z => by rw [nI_add, nI_add, nI_add] at z; have := (nI_gtn 15 (by omega) (by omega)).mp z; omega
                  have c2 : nI M < 6 * nI s6 + 5 * nI s5 + 4 * nI s4 + 3 * nI s3 ↔ L3 < 3 * s3 := by rw [lit 6, lit 5, lit 4, lit 3, pk_mul, pk_mul, pk_mul, pk_mul, nI_add, nI_add, nI_add, nI_ltI (by omega) (by omega)]; omega
                  refine r_12_learn_119 F (fun z => absurd z c1) (fun _ z => ex s3 I1 A1 (by omega) (Or.inr (c2.mp z)) hv) (fun _ z => ?_)
                  have h3 : 3 * s3 ≤ L3 := Nat.le_of_not_lt (fun y => z (c2.mpr y))
                  clear z ex c1 c2
                  obtain ⟨m2, hm2⟩ : ∃ m, m + s3 = m3 := ⟨m3 - s3, by omega⟩
                  obtain ⟨L2, hL2⟩ : ∃ m, m + 3 * s3 = L3 := ⟨L3 - 3 * s3, by omega⟩
                  have e3 : cnF 2 m3 L3 (0 + s3) = cnt 2 m2 L2 := by rw [Nat.zero_add]; exact cnF_e hm2 hL2
                  generalize hB3 : B4 + sumB (cnF 2 m3 L3) 0 s3 = B3
                  have ih3' : ∀ I1 A1 (v : Nat), v = B3 + cnt 2 m2 L2 → lnV I0 A0 I1 A1 M s6 s5 s4 (s3 + 1) 0 → WA X (mS I1 A1 J) plM 0 0 119 [(0, .ref 0), (1, .int (nI M)), (2, .int (nI v)), (3, .int (nI s6)), (4, .int (nI s5)), (5, .int (nI s4)), (6, .int (nI s3 + 1))] [] := fun I1 A1 v ev hv => by
                    rw [ev, ← hB3, ← e3, nI_1, Nat.add_assoc]; exact ih3 (s3 + 1) I1 A1 (by omega) hv
                  clear ih3 hB3 e3 hf ih4'
                  have eL : nI M - 6 * nI s6 - 5 * nI s5 - 4 * nI s4 - 3 * nI s3 = nI L2 := by
                    rw [lit 6, lit 5, lit 4, lit 3, pk_mul, pk_mul, pk_mul, pk_mul, pk_sub (by omega), pk_sub (by omega), pk_sub (by omega), pk_sub (by omega)]
                    congr 1; omega
                  have eR : (15 : Int32) - nI s3 - nI s4 - nI s5 - nI s6 = nI m2 := by
                    rw [lit 15, pk_sub (by omega), pk_sub (by omega), pk_sub (by omega), pk_sub (by omega)]
                    congr 1; omega
                  rw [eL, eR]
                  clear eL eR
                  have l2 : ∀ f s2 I1 A1, s2 + f = m2 + 1 → lnV I0 A0 I1 A1 M s6 s5 s4 s3 s2 → WA X (mS I1 A1 J) plM 0 0 198 [(0, .ref 0), (1, .int (nI M)), (2, .int (nI (B3 + sumB (cnF 1 m2 L2) 0 s2))), (3, .int (nI s6)), (4, .int (nI s5)), (5, .int (nI s4)), (6, .int (nI s3)), (7, .int (nI L2)), (8, .int (nI m2)), (9, .int (nI s2))] [] := by
                    have ex : ∀ s2 I1 A1, s2 ≤ m2 + 1 → (s2 = m2 + 1 ∨ L2 < 2 * s2) → lnV I0 A0 I1 A1 M s6 s5 s4 s3 s2 → WA X (mS I1 A1 J) plM 0 0 119 [(0, .ref 0), (1, .int (nI M)), (2, .int (nI (B3 + sumB (cnF 1 m2 L2) 0 s2))), (3, .int (nI s6)), (4, .int (nI s5)), (5, .int (nI s4)), (6, .int (nI s3 + 1))] [] := fun s2 I1 A1 h16 hc hv => by
                      rw [cnt_x h16 hc]
                      exact ih3' I1 A1 _ rfl (lnV_u hv (fun d1 d2 d3 d4 d5 d6 em ep hlt => by unfold Lx at *; omega))
                    intro f
                    induction f with
                    | zero =>
                      intro s2 I1 A1 hf hv
                      have c1 : nI m2 < nI s2 := (nI_ltI (by omega) (by omega)).mpr (by omega)
                      exact r_12_learn_198 F (fun _ => ex s2 I1 A1 (by omega) (Or.inl (by omega)) hv) (fun z => absurd c1 z) (fun z => absurd c1 z) (fun z => absurd c1 z)
                    | succ f ih2 =>
                      intro s2 I1 A1 hf hv
                      have c1 : ¬ nI m2 < nI s2 := fun z => by have := (nI_ltI (by omega) (by omega)).mp z; omega
                      have c2 : nI L2 < 2 * nI s2 ↔ L2 < 2 * s2 := by rw [lit 2, pk_mul]; exact nI_ltI (by omega) (by omega)
                      by_cases h2 : L2 < 2 * s2
                      · exact r_12_learn_198 F (fun z => absurd z c1) (fun _ _ => ex s2 I1 A1 (by omega) (Or.inr h2) hv) (fun _ z => absurd (c2.mpr h2) z) (fun _ z => absurd (c2.mpr h2) z)
                      obtain ⟨s1, hs1⟩ : ∃ m, m + 2 * s2 = L2 := ⟨L2 - 2 * s2, by omega⟩
                      obtain ⟨m1, hm1⟩ : ∃ m, m + s2 = m2 := ⟨m2 - s2, by omega⟩
                      have e3 : nI s2 + nI L2 - 2 * nI s2 = nI (s2 + s1) := by rw [lit 2, pk_mul, nI_add, pk_sub (by omega)]; congr 1; omega
                      have c3 : nI s2 + nI L2 - 2 * nI s2 ≤ nI m2 ↔ s1 ≤ m1 := by rw [e3, nI_leI (by omega) (by omega)]; omega
                      have eF2 : cnF 1 m2 L2 (0 + s2) = if s1 ≤ m1 then 1 else 0 := by
                        rw [Nat.zero_add, cnF_e hm1 hs1, cnt_1]
                      have go : ∀ I2 A2 v, lnV I0 A0 I2 A2 M s6 s5 s4 s3 (s2 + 1) → v = cnF 1 m2 L2 (0 + s2) → WA X (mS I2 A2 J) plM 0 0 198 [(0, .ref 0), (1, .int (nI M)), (2, .int (nI (B3 + sumB (cnF 1 m2 L2) 0 s2 + v))), (3, .int (nI s6)), (4, .int (nI s5)), (5, .int (nI s4)), (6, .int (nI s3)), (7, .int (nI L2)), (8, .int (nI m2)), (9, .int (nI s2 + 1))] [] := fun I2 A2 v hv2 ev => by
                        rw [ev, nI_1, Nat.add_assoc]
                        exact ih2 (s2 + 1) I2 A2 (by omega) hv2
                      clear ih2 ex ih3'
                      refine r_12_learn_198 F (fun z => absurd z c1) (fun _ z => absurd (c2.mp z) h2) (fun _ _ z => ?_) (fun _ _ z => ?_)
                      · have h3' := c3.mp z
                        have eS : nI L2 - 2 * nI s2 = nI s1 := by rw [lit 2, pk_mul, pk_sub (by omega)]; congr 1; omega
                        rw [eS, st_or (by omega) (by omega) (by omega) (by omega) (by omega) (by omega)]
                        obtain ⟨hst, hpp⟩ := dig_st (d1 := s1) (d2 := s2) (d3 := s3) (d4 := s4) (d5 := s5) (d6 := s6) (by omega)
                        have hval : s1 + 16 * s2 + 256 * s3 + 4096 * s4 + 65536 * s5 + 1048576 * s6 ≠ 0 := by omega
                        have hpM : pipS (s1 + 16 * s2 + 256 * s3 + 4096 * s4 + 65536 * s5 + 1048576 * s6) = M := by rw [hpp]; omega
                        have em : s1 + s2 + s3 + s4 + s5 + s6 ≤ 15 := by omega
                        have ep : s1 + 2 * s2 + 3 * s3 + 4 * s4 + 5 * s5 + 6 * s6 = M := by omega
                        have wk := fun I2 A2 => @lnV_wk I0 A0 I1 A1 I2 A2 M s6 s5 s4 s3 s2 s1 hv em ep hM1
                        rw [show fl6 s1 s2 s3 s4 s5 s6 = s1 + 16 * s2 + 256 * s3 + 4096 * s4 + 65536 * s5 + 1048576 * s6 from rfl] at wk
                        generalize s1 + 16 * s2 + 256 * s3 + 4096 * s4 + 65536 * s5 + 1048576 * s6 = s at hst hpp hval hpM wk
                        refine a_callV (b := 0) (As := [.int (nI s)]) (st := []) (ci := 12) F (c_work (xl X) I1 A1 J s hst hval hv.1 (fun t ht hp => hv.2.2.2.1 t ht (by rw [hpM] at hp; exact hp))) ml_12_372 im_yX12_work se_yX12_work (by decide) (by decide) rfl (by decide) rfl rfl dX12_learn_268 (by decide) (Nat.le_refl 0) (Nat.le_refl 0) (hl_r (by decide) (hl_i (hl_i (hl_i (hl_i (hl_i (hl_i (hl_i (hl_i (hl_i hl_nil)))))))))) hs_nil ?_
                        rintro _ _ _ ⟨I2, A2, rfl, rfl, rfl, w1, w2, w3, w4⟩ _
                        refine r_12_learn_271 F ?_
                        rw [nI_1 (B3 + sumB (cnF 1 m2 L2) 0 s2)]
                        exact go I2 A2 1 (wk I2 A2 w1 w2 w3 w4) (by rw [eF2, if_pos h3'])
                      · have h3' : ¬ s1 ≤ m1 := (not_congr c3).mp z
                        have := go I1 A1 0 (lnV_u hv (fun d1 d2 d3 d4 d5 d6 em ep hlt => by unfold Lx at *; omega)) (by rw [eF2, if_neg h3'])
                        rw [Nat.add_zero] at this
                        exact this
                  exact l2 _ 0 I1 A1 (Nat.zero_add _) hv
              exact l3 _ 0 I1 A1 (Nat.zero_add _) hv
          exact l4 _ 0 I1 A1 (Nat.zero_add _) hv
      exact l5 _ 0 I1 A1 (Nat.zero_add _) hv
  exact l6 16 0 I0 A0 rfl v0
