theorem r_1_add_0 {X : Ctx} (F : Fx X cX1_add RX1 2 1 0 0) {Φ : Option Value → HS → List Nat → Prop} (E : Ex X none 0 0 Φ) {P O : Nat → Nat → Option Nat} (hP : laP P) {I A : Nat → Nat → Int32} {J : Nat → Nat → Int64} {pl : List Nat} (hB : inB pl) {x1 : Int32} {p : Nat} (hk_p : kC p = 1) (hp_p : p ∈ pl) (hq_p : p + 1 ∈ pl)
    (e_1 : (400 ≤ (I p 1)) → Φ none (mC P O I A J) pl)
    (o_2 : (¬ (400 ≤ (I p 1))) → vp_in (I p 1) 400)
    (e_3 : (¬ (400 ≤ (I p 1))) → Φ none (mC P O (up2 I p 1 ((I p 1) + 1)) (up1 A (p + 1) (upd (A (p + 1)) (I p 1).toNatClampNeg (x1 &&& 255))) J) pl) :
    WA X (mC P O I A J) pl 0 0 0 [(0, .ref p), (1, .int x1)] [] := by
  refine a_aload_n F 0 dX1_add_0 rfl rfl ?_
  refine a_geti F fl_1_15 rfl (hp_p) hk_p dX1_add_1 ?_
  refine a_aload_n F 0 dX1_add_4 rfl rfl ?_
  refine a_getr (b := (p + 1)) F fl_1_9 rfl (hp_p) hk_p (laP_by hP hk_p) dX1_add_5 ?_
  refine a_alen (v := 400) F (hq_p) (k_by hk_p).1 (by decide) (by decide) (show Int32.ofNat (nC (p + 1)) = 400 by rw [(k_by hk_p).2]; rfl) dX1_add_8 ?_
  refine a_icmp_ge (tgt := 36) F dX1_add_9 (by decide) (fun (c_1 : 400 ≤ (I p 1)) => ?_) (fun (c_1 : ¬ (400 ≤ (I p 1))) => ?_)
  · exact a_vret F E dX1_add_36 (Nat.le_refl 0) (Nat.le_refl 0) (e_1 c_1)
  · refine a_aload_n F 0 dX1_add_12 rfl rfl ?_
    refine a_getr (b := (p + 1)) F fl_1_9 rfl (hp_p) hk_p (laP_by hP hk_p) dX1_add_13 ?_
    refine a_aload_n F 0 dX1_add_16 rfl rfl ?_
    refine a_geti F fl_1_15 rfl (hp_p) hk_p dX1_add_17 ?_
    refine a_iload_n F 1 dX1_add_20 rfl rfl ?_
    refine a_sipush (v := 255) F dX1_add_21 (by decide) ?_
    refine a_iand F dX1_add_24 ?_
    refine a_iast F (hq_p) (k_by hk_p).1 (show vp_in _ (nC (p + 1)) from (k_by hk_p).2 ▸ o_2 c_1) dX1_add_25 ?_
    refine a_aload_n F 0 dX1_add_26 rfl rfl ?_
    refine a_dup F dX1_add_27 rfl ?_
    refine a_geti F fl_1_15 rfl (hp_p) hk_p dX1_add_28 ?_
    refine a_iconst (v := 1) F dX1_add_31 (by decide) ?_
    refine a_iadd F dX1_add_32 ?_
    refine a_puti F fl_1_15 rfl rfl rfl rfl (hp_p) hk_p dX1_add_33 ?_
    exact a_vret F E dX1_add_36 (Nat.le_refl 0) (Nat.le_refl 0) (e_3 c_1)
