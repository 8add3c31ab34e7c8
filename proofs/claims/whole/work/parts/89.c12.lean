def FrT (I I' : Nat → Nat → Int32) : Prop := ∀ q k, ¬ (q = 104 ∧ 1 ≤ k ∧ k ≤ 8) → q ≠ 132 → q ≠ 106 → I' q k = I q k
theorem FrT.rf (I : Nat → Nat → Int32) : FrT I I := fun _ _ _ _ _ => rfl
theorem FrT.tr {I I' I2 : Nat → Nat → Int32} (h : FrT I I') (h2 : FrT I' I2) : FrT I I2 := fun q k a b c => (h2 q k a b c).trans (h q k a b c)
theorem FrT.of {I I' : Nat → Nat → Int32} (h : FrC I I') : FrT I I' := fun q k a _ _ => h q k (fun z => a ⟨z.1, by omega, z.2.2⟩)
theorem ft_132 (I : Nat → Nat → Int32) (k : Nat) (v : Int32) : FrT I (up2 I 132 k v) := fun q j _ b _ => up2_p b
theorem ft_106 (I : Nat → Nat → Int32) (k : Nat) (v : Int32) : FrT I (up2 I 106 k v) := fun q j _ _ c => up2_p c
theorem ft_op (I : Nat → Nat → Int32) (n : Int32) : FrT I (opI I n) := fun q k a _ _ => by
  unfold opI
  by_cases c : q = 104
  · subst c
    have h1 : k ≠ 1 := fun z => a ⟨rfl, by omega, by omega⟩
    have h2 : k ≠ 2 := fun z => a ⟨rfl, by omega, by omega⟩
    have h7 : k ≠ 7 := fun z => a ⟨rfl, by omega, by omega⟩
    have h8 : k ≠ 8 := fun z => a ⟨rfl, by omega, by omega⟩
    rw [up2_k h8, up2_k h7, up2_k h2, up2_k h1]
  · rw [up2_p c, up2_p c, up2_p c, up2_p c]
theorem rg_132 (I : Nat → Nat → Int32) (T : Nat → Int32) : rgI I T 132 1 = I 132 1 := fr_rg I T 132 1 (fun z => absurd z.1 (by decide))
theorem rg_106 (I : Nat → Nat → Int32) (T : Nat → Int32) : rgI I T 106 5 = I 106 5 := fr_rg I T 106 5 (fun z => absurd z.1 (by decide))
theorem sumR_0 (o : Nat) : ∀ i, sumR (fun _ => 0) o i = 0
  | 0 => rfl
  | i + 1 => by show sumR (fun _ => 0) o i + 0 = 0; rw [sumR_0 o i]
theorem rdB_0 (r : Nat → Int32) : rdB (clrR r) (fun _ => 0) (fun _ => 0) := by
  unfold clrR
  refine ⟨fun q k hq k1 k2 => ⟨?_, Nat.zero_le _⟩, fun q hq => ⟨?_, Nat.zero_le _⟩⟩
  · rw [upd_out (by omega), upd_out (by omega)]; unfold fillF; rw [if_pos (by omega)]; rfl
  · rcases (show q = 0 ∨ q = 1 by omega) with rfl | rfl
    · rw [upd_out (by omega)]; exact upd_in
    · exact upd_in
theorem op_78 (I : Nat → Nat → Int32) (n : Int32) : opI I n 104 7 = 0 ∧ opI I n 104 8 = -1 := ⟨rfl, rfl⟩
theorem op_rd {I : Nat → Nat → Int32} {n sz : Nat} (h1 : n ≤ sz) (h2 : sz ≤ 400) (h3 : I 120 1 = nI sz) : rdP (opI I (nI n)) n 0 sz := ⟨Nat.zero_le _, h1, h2, rfl, rfl, h3⟩
theorem op_ac {I : Nat → Nat → Int32} {T : Nat → Int32} {n sz : Nat} (h1 : n ≤ sz) (h2 : sz ≤ 400) (h3 : I 120 1 = nI sz) : AtC (rgI (opI I (nI n)) T) T n (endT bBl T n 0) sz := by
  have e : rgI (opI I (nI n)) T = tkI (opI I (nI n)) T n (endT bBl T n 0) := by
    unfold rgI
    rw [show (opI I (nI n) 104 1).toNatClampNeg = n from nI_clamp (by omega), show (opI I (nI n) 104 2).toNatClampNeg = 0 from rfl]
  rw [e]; exact ac_tk (op_rd h1 h2 h3)
def trnF (T : Nat → Int32) (n p : Nat) (rd : Nat → Nat) : Except (Nat × Nat) Nat :=
  if ¬ tkS T n p = 2 then .error (1, p)
  else if tkV T n p < 0 ∨ 1 < tkV T n p then .error (2, p)
  else if sumR rd 0 25 = 0 ∧ sumR rd 26 25 = 0 then .error (6, p)
  else if ¬ tkS T n (nxP T n p) = 0 then .error (1, nxP T n p)
  else .ok (tkN T n p)
def trnQ (P O : Nat → Nat → Option Nat) (I A : Nat → Nat → Int32) (J : Nat → Nat → Int64) (pl : List Nat) (res : Except (Nat × Nat) Nat) : Option Value → HS → List Nat → Prop := fun rv σ' pl' => pl = pl' ∧ ∃ I', σ' = mC P O I' A J ∧ FrT I I' ∧
  match res with
  | .error fp => rv = some (.int 0) ∧ I' 104 7 = nI fp.1 ∧ I' 104 8 = nI fp.2
  | .ok w => rv = some (.int 1) ∧ I' 104 7 = I 104 7 ∧ I' 104 8 = I 104 8 ∧ w ≤ 1 ∧ I' 132 1 = nI w

theorem r_9_readTurn_0 {X : Ctx} (F : Fx X cX9_readTurn RX9 1 7 0 0) {Φ : Option Value → HS → List Nat → Prop} (E : Ex X (some .boolean) 0 0 Φ) {P O : Nat → Nat → Option Nat} (hP : laP P) {I A : Nat → Nat → Int32} {J : Nat → Nat → Int64} {pl : List Nat} (hB : inB pl)
    (o_1 : (nuP I (0 : Int32) (1 : Int32)) → vp_in ((0 : Int32) * 26 + 0) 52)
    (o_2 : (nuP I (0 : Int32) (1 : Int32)) → ((A 133) ((0 : Int32) * 26 + 0).toNatClampNeg = 15) → vp_in ((1 : Int32) * 26 + 0) 52)
    (e_3 : (nuP I (0 : Int32) (1 : Int32)) → ((A 133) ((0 : Int32) * 26 + 0).toNatClampNeg = 15) → ((A 133) ((1 : Int32) * 26 + 0).toNatClampNeg = 15) → Φ (some (.int 0)) (mC P O (faI (nuI I (0 : Int32) (1 : Int32)) (6 : Int32)) A J) pl)
    (o_4 : (nuP I (0 : Int32) (1 : Int32)) → ((A 133) ((0 : Int32) * 26 + 0).toNatClampNeg = 15) → (¬ ((A 133) ((1 : Int32) * 26 + 0).toNatClampNeg = 15)) → okRd (up2 (nuI I (0 : Int32) (1 : Int32)) 132 1 ((nuI I (0 : Int32) (1 : Int32)) 104 6)))
    (e_5 : (nuP I (0 : Int32) (1 : Int32)) → ((A 133) ((0 : Int32) * 26 + 0).toNatClampNeg = 15) → (¬ ((A 133) ((1 : Int32) * 26 + 0).toNatClampNeg = 15)) → (((rgI (up2 (nuI I (0 : Int32) (1 : Int32)) 132 1 ((nuI I (0 : Int32) (1 : Int32)) 104 6)) (A 121)) 104 5) = 0) → Φ (some (.int 1)) (mC P O (rgI (up2 (nuI I (0 : Int32) (1 : Int32)) 132 1 ((nuI I (0 : Int32) (1 : Int32)) 104 6)) (A 121)) A J) pl)
    (e_6 : (nuP I (0 : Int32) (1 : Int32)) → ((A 133) ((0 : Int32) * 26 + 0).toNatClampNeg = 15) → (¬ ((A 133) ((1 : Int32) * 26 + 0).toNatClampNeg = 15)) → (¬ (((rgI (up2 (nuI I (0 : Int32) (1 : Int32)) 132 1 ((nuI I (0 : Int32) (1 : Int32)) 104 6)) (A 121)) 104 5) = 0)) → Φ (some (.int 0)) (mC P O (faI (rgI (up2 (nuI I (0 : Int32) (1 : Int32)) 132 1 ((nuI I (0 : Int32) (1 : Int32)) 104 6)) (A 121)) (1 : Int32)) A J) pl)
    (o_7 : (nuP I (0 : Int32) (1 : Int32)) → (¬ ((A 133) ((0 : Int32) * 26 + 0).toNatClampNeg = 15)) → okRd (up2 (nuI I (0 : Int32) (1 : Int32)) 132 1 ((nuI I (0 : Int32) (1 : Int32)) 104 6)))
    (e_8 : (nuP I (0 : Int32) (1 : Int32)) → (¬ ((A 133) ((0 : Int32) * 26 + 0).toNatClampNeg = 15)) → (((rgI (up2 (nuI I (0 : Int32) (1 : Int32)) 132 1 ((nuI I (0 : Int32) (1 : Int32)) 104 6)) (A 121)) 104 5) = 0) → Φ (some (.int 1)) (mC P O (rgI (up2 (nuI I (0 : Int32) (1 : Int32)) 132 1 ((nuI I (0 : Int32) (1 : Int32)) 104 6)) (A 121)) A J) pl)
    (e_9 : (nuP I (0 : Int32) (1 : Int32)) → (¬ ((A 133) ((0 : Int32) * 26 + 0).toNatClampNeg = 15)) → (¬ (((rgI (up2 (nuI I (0 : Int32) (1 : Int32)) 132 1 ((nuI I (0 : Int32) (1 : Int32)) 104 6)) (A 121)) 104 5) = 0)) → Φ (some (.int 0)) (mC P O (faI (rgI (up2 (nuI I (0 : Int32) (1 : Int32)) 132 1 ((nuI I (0 : Int32) (1 : Int32)) 104 6)) (A 121)) (1 : Int32)) A J) pl)
    (e_10 : (¬ (nuP I (0 : Int32) (1 : Int32))) → Φ (some (.int 0)) (mC P O (nuI I (0 : Int32) (1 : Int32)) A J) pl) :
    WA X (mC P O I A J) pl 0 0 0 [(0, .ref 106)] [] := by
  refine a_aload_n F 0 dX9_readTurn_0 rfl rfl ?_
  refine a_getr (b := 104) F fl_9_29 rfl (hB _ (by decide)) rfl ((hP 106 0 (by decide)).trans rfl) dX9_readTurn_1 ?_
  refine a_iconst (v := 0) F dX9_readTurn_4 (by decide) ?_
  refine a_iconst (v := 1) F dX9_readTurn_5 (by decide) ?_
  refine a_callV (b := 104) (As := [.int 0, .int 1]) (st := []) (ci := 5) F (c_5_isNumber (xl X) hP I A J hB (0 : Int32) (1 : Int32)) ml_9_63 im_yX5_isNumber se_yX5_isNumber (by decide) (by decide) rfl (hB _ (by decide)) rfl rfl dX9_readTurn_6 (by decide) (Nat.le_refl 0) (Nat.le_refl 0) (hl_r (hB _ (by decide)) hl_nil) hs_nil ?_
  rintro _ _ _ ⟨rfl, rfl, rfl⟩ _
  show WA X (mC P O (nuI I (0 : Int32) (1 : Int32)) A J) pl 0 0 9 [(0, .ref 106)] [.int (@ite Int32 (nuP I (0 : Int32) (1 : Int32)) (Classical.propDecidable _) 1 0)]
  refine a_ite (fun (c_1 : nuP I (0 : Int32) (1 : Int32)) => ?_) (fun (c_1 : ¬ (nuP I (0 : Int32) (1 : Int32))) => ?_)
  · refine a_if_ne (tgt := 14) F dX9_readTurn_9 (by decide) (fun (c_2 : ¬ (1 : Int32) = 0) => ?_) (fun (c_2 : (1 : Int32) = 0) => ?_)
    · refine a_aload_n F 0 dX9_readTurn_14 rfl rfl ?_
      refine a_getr (b := 132) F fl_9_12 rfl (hB _ (by decide)) rfl ((hP 106 1 (by decide)).trans rfl) dX9_readTurn_15 ?_
      refine a_iconst (v := 0) F dX9_readTurn_18 (by decide) ?_
      refine a_callV (b := 132) (As := [.int 0]) (st := []) (ci := 0) F (c_0_hasAllOff (xl X) hP (nuI I (0 : Int32) (1 : Int32)) A J hB 132 rfl (hB _ (by decide)) (hB _ (by decide)) (0 : Int32) (o_1 c_1)) ml_9_82 im_yX0_hasAllOff se_yX0_hasAllOff (by decide) (by decide) rfl (hB _ (by decide)) rfl rfl dX9_readTurn_19 (by decide) (Nat.le_refl 0) (Nat.le_refl 0) (hl_r (hB _ (by decide)) hl_nil) hs_nil ?_
      rintro _ _ _ ⟨rfl, rfl, rfl⟩ _
      show WA X (mC P O (nuI I (0 : Int32) (1 : Int32)) A J) pl 0 0 22 [(0, .ref 106)] [.int (if (A 133) ((0 : Int32) * 26 + 0).toNatClampNeg = 15 then 1 else 0)]
      refine a_ite (fun (c_3 : (A 133) ((0 : Int32) * 26 + 0).toNatClampNeg = 15) => ?_) (fun (c_3 : ¬ ((A 133) ((0 : Int32) * 26 + 0).toNatClampNeg = 15)) => ?_)
      · refine a_if_eq (tgt := 46) F dX9_readTurn_22 (by decide) (fun (c_4 : (1 : Int32) = 0) => ?_) (fun (c_4 : ¬ ((1 : Int32) = 0)) => ?_)
        · exact absurd c_4 (by decide)
        · refine a_aload_n F 0 dX9_readTurn_25 rfl rfl ?_
          refine a_getr (b := 132) F fl_9_12 rfl (hB _ (by decide)) rfl ((hP 106 1 (by decide)).trans rfl) dX9_readTurn_26 ?_
          refine a_iconst (v := 1) F dX9_readTurn_29 (by decide) ?_
          refine a_callV (b := 132) (As := [.int 1]) (st := []) (ci := 0) F (c_0_hasAllOff (xl X) hP (nuI I (0 : Int32) (1 : Int32)) A J hB 132 rfl (hB _ (by decide)) (hB _ (by decide)) (1 : Int32) (o_2 c_1 c_3)) ml_9_82 im_yX0_hasAllOff se_yX0_hasAllOff (by decide) (by decide) rfl (hB _ (by decide)) rfl rfl dX9_readTurn_30 (by decide) (Nat.le_refl 0) (Nat.le_refl 0) (hl_r (hB _ (by decide)) hl_nil) hs_nil ?_
          rintro _ _ _ ⟨rfl, rfl, rfl⟩ _
          show WA X (mC P O (nuI I (0 : Int32) (1 : Int32)) A J) pl 0 0 33 [(0, .ref 106)] [.int (if (A 133) ((1 : Int32) * 26 + 0).toNatClampNeg = 15 then 1 else 0)]
          refine a_ite (fun (c_5 : (A 133) ((1 : Int32) * 26 + 0).toNatClampNeg = 15) => ?_) (fun (c_5 : ¬ ((A 133) ((1 : Int32) * 26 + 0).toNatClampNeg = 15)) => ?_)
          · refine a_if_eq (tgt := 46) F dX9_readTurn_33 (by decide) (fun (c_6 : (1 : Int32) = 0) => ?_) (fun (c_6 : ¬ ((1 : Int32) = 0)) => ?_)
            · exact absurd c_6 (by decide)
            · refine a_aload_n F 0 dX9_readTurn_36 rfl rfl ?_
              refine a_getr (b := 104) F fl_9_29 rfl (hB _ (by decide)) rfl ((hP 106 0 (by decide)).trans rfl) dX9_readTurn_37 ?_
              refine a_bipush (v := 6) F dX9_readTurn_40 (by decide) ?_
              refine a_callV (b := 104) (As := [.int 6]) (st := []) (ci := 5) F (c_5_fail (xl X) hP (nuI I (0 : Int32) (1 : Int32)) A J hB (6 : Int32)) ml_9_75 im_yX5_fail se_yX5_fail (by decide) (by decide) rfl (hB _ (by decide)) rfl rfl dX9_readTurn_42 (by decide) (Nat.le_refl 0) (Nat.le_refl 0) (hl_r (hB _ (by decide)) hl_nil) hs_nil ?_
              rintro _ _ _ ⟨rfl, rfl, rfl⟩ _
              show WA X (mC P O (faI (nuI I (0 : Int32) (1 : Int32)) (6 : Int32)) A J) pl 0 0 45 [(0, .ref 106)] [.int 0]
              exact a_zret F E (by decide) dX9_readTurn_45 (Nat.le_refl 0) (Nat.le_refl 0) (e_3 c_1 c_3 c_5)
          · refine a_if_eq (tgt := 46) F dX9_readTurn_33 (by decide) (fun (c_7 : (0 : Int32) = 0) => ?_) (fun (c_7 : ¬ ((0 : Int32) = 0)) => ?_)
            · refine a_aload_n F 0 dX9_readTurn_46 rfl rfl ?_
              refine a_getr (b := 132) F fl_9_12 rfl (hB _ (by decide)) rfl ((hP 106 1 (by decide)).trans rfl) dX9_readTurn_47 ?_
              refine a_aload_n F 0 dX9_readTurn_50 rfl rfl ?_
              refine a_getr (b := 104) F fl_9_29 rfl (hB _ (by decide)) rfl ((hP 106 0 (by decide)).trans rfl) dX9_readTurn_51 ?_
              refine a_geti F fl_9_67 rfl (hB _ (by decide)) rfl dX9_readTurn_54 ?_
              refine a_puti F fl_9_85 rfl rfl rfl rfl (hB _ (by decide)) rfl dX9_readTurn_57 ?_
              refine a_aload_n F 0 dX9_readTurn_60 rfl rfl ?_
              refine a_getr (b := 104) F fl_9_29 rfl (hB _ (by decide)) rfl ((hP 106 0 (by decide)).trans rfl) dX9_readTurn_61 ?_
              refine a_callV (b := 104) (As := []) (st := []) (ci := 5) F (c_5_readI (xl X) hP (up2 (nuI I (0 : Int32) (1 : Int32)) 132 1 ((nuI I (0 : Int32) (1 : Int32)) 104 6)) A J hB (o_4 c_1 c_3 c_5)) ml_9_60 im_yX5_read se_yX5_read (by decide) (by decide) rfl (hB _ (by decide)) rfl rfl dX9_readTurn_64 (by decide) (Nat.le_refl 0) (Nat.le_refl 0) (hl_r (hB _ (by decide)) hl_nil) hs_nil ?_
              rintro _ _ _ ⟨rfl, rfl, rfl⟩ _
              show WA X (mC P O (rgI (up2 (nuI I (0 : Int32) (1 : Int32)) 132 1 ((nuI I (0 : Int32) (1 : Int32)) 104 6)) (A 121)) A J) pl 0 0 67 [(0, .ref 106)] []
              refine a_aload_n F 0 dX9_readTurn_67 rfl rfl ?_
              refine a_getr (b := 104) F fl_9_29 rfl (hB _ (by decide)) rfl ((hP 106 0 (by decide)).trans rfl) dX9_readTurn_68 ?_
              refine a_geti F fl_9_88 rfl (hB _ (by decide)) rfl dX9_readTurn_71 ?_
              refine a_if_eq (tgt := 88) F dX9_readTurn_74 (by decide) (fun (c_8 : ((rgI (up2 (nuI I (0 : Int32) (1 : Int32)) 132 1 ((nuI I (0 : Int32) (1 : Int32)) 104 6)) (A 121)) 104 5) = 0) => ?_) (fun (c_8 : ¬ (((rgI (up2 (nuI I (0 : Int32) (1 : Int32)) 132 1 ((nuI I (0 : Int32) (1 : Int32)) 104 6)) (A 121)) 104 5) = 0)) => ?_)
              · refine a_iconst (v := 1) F dX9_readTurn_88 (by decide) ?_
                refine a_goto (tgt := 93) F dX9_readTurn_89 (by decide) ?_
                exact a_zret F E (by decide) dX9_readTurn_93 (Nat.le_refl 0) (Nat.le_refl 0) (e_5 c_1 c_3 c_5 c_8)
              · refine a_aload_n F 0 dX9_readTurn_77 rfl rfl ?_
                refine a_getr (b := 104) F fl_9_29 rfl (hB _ (by decide)) rfl ((hP 106 0 (by decide)).trans rfl) dX9_readTurn_78 ?_
                refine a_iconst (v := 1) F dX9_readTurn_81 (by decide) ?_
                refine a_callV (b := 104) (As := [.int 1]) (st := []) (ci := 5) F (c_5_fail (xl X) hP (rgI (up2 (nuI I (0 : Int32) (1 : Int32)) 132 1 ((nuI I (0 : Int32) (1 : Int32)) 104 6)) (A 121)) A J hB (1 : Int32)) ml_9_75 im_yX5_fail se_yX5_fail (by decide) (by decide) rfl (hB _ (by decide)) rfl rfl dX9_readTurn_82 (by decide) (Nat.le_refl 0) (Nat.le_refl 0) (hl_r (hB _ (by decide)) hl_nil) hs_nil ?_
                rintro _ _ _ ⟨rfl, rfl, rfl⟩ _
                show WA X (mC P O (faI (rgI (up2 (nuI I (0 : Int32) (1 : Int32)) 132 1 ((nuI I (0 : Int32) (1 : Int32)) 104 6)) (A 121)) (1 : Int32)) A J) pl 0 0 85 [(0, .ref 106)] [.int 0]
                refine a_if_eq (tgt := 92) F dX9_readTurn_85 (by decide) (fun (c_9 : (0 : Int32) = 0) => ?_) (fun (c_9 : ¬ ((0 : Int32) = 0)) => ?_)
                · refine a_iconst (v := 0) F dX9_readTurn_92 (by decide) ?_
                  exact a_zret F E (by decide) dX9_readTurn_93 (Nat.le_refl 0) (Nat.le_refl 0) (e_6 c_1 c_3 c_5 c_8)
                · exact absurd c_9 (by decide)
            · exact absurd c_7 (by decide)
      · refine a_if_eq (tgt := 46) F dX9_readTurn_22 (by decide) (fun (c_10 : (0 : Int32) = 0) => ?_) (fun (c_10 : ¬ ((0 : Int32) = 0)) => ?_)
        · refine a_aload_n F 0 dX9_readTurn_46 rfl rfl ?_
          refine a_getr (b := 132) F fl_9_12 rfl (hB _ (by decide)) rfl ((hP 106 1 (by decide)).trans rfl) dX9_readTurn_47 ?_
          refine a_aload_n F 0 dX9_readTurn_50 rfl rfl ?_
          refine a_getr (b := 104) F fl_9_29 rfl (hB _ (by decide)) rfl ((hP 106 0 (by decide)).trans rfl) dX9_readTurn_51 ?_
          refine a_geti F fl_9_67 rfl (hB _ (by decide)) rfl dX9_readTurn_54 ?_
          refine a_puti F fl_9_85 rfl rfl rfl rfl (hB _ (by decide)) rfl dX9_readTurn_57 ?_
          refine a_aload_n F 0 dX9_readTurn_60 rfl rfl ?_
          refine a_getr (b := 104) F fl_9_29 rfl (hB _ (by decide)) rfl ((hP 106 0 (by decide)).trans rfl) dX9_readTurn_61 ?_
          refine a_callV (b := 104) (As := []) (st := []) (ci := 5) F (c_5_readI (xl X) hP (up2 (nuI I (0 : Int32) (1 : Int32)) 132 1 ((nuI I (0 : Int32) (1 : Int32)) 104 6)) A J hB (o_7 c_1 c_3)) ml_9_60 im_yX5_read se_yX5_read (by decide) (by decide) rfl (hB _ (by decide)) rfl rfl dX9_readTurn_64 (by decide) (Nat.le_refl 0) (Nat.le_refl 0) (hl_r (hB _ (by decide)) hl_nil) hs_nil ?_
          rintro _ _ _ ⟨rfl, rfl, rfl⟩ _
          show WA X (mC P O (rgI (up2 (nuI I (0 : Int32) (1 : Int32)) 132 1 ((nuI I (0 : Int32) (1 : Int32)) 104 6)) (A 121)) A J) pl 0 0 67 [(0, .ref 106)] []
          refine a_aload_n F 0 dX9_readTurn_67 rfl rfl ?_
          refine a_getr (b := 104) F fl_9_29 rfl (hB _ (by decide)) rfl ((hP 106 0 (by decide)).trans rfl) dX9_readTurn_68 ?_
          refine a_geti F fl_9_88 rfl (hB _ (by decide)) rfl dX9_readTurn_71 ?_
          refine a_if_eq (tgt := 88) F dX9_readTurn_74 (by decide) (fun (c_11 : ((rgI (up2 (nuI I (0 : Int32) (1 : Int32)) 132 1 ((nuI I (0 : Int32) (1 : Int32)) 104 6)) (A 121)) 104 5) = 0) => ?_) (fun (c_11 : ¬ (((rgI (up2 (nuI I (0 : Int32) (1 : Int32)) 132 1 ((nuI I (0 : Int32) (1 : Int32)) 104 6)) (A 121)) 104 5) = 0)) => ?_)
          · refine a_iconst (v := 1) F dX9_readTurn_88 (by decide) ?_
            refine a_goto (tgt := 93) F dX9_readTurn_89 (by decide) ?_
            exact a_zret F E (by decide) dX9_readTurn_93 (Nat.le_refl 0) (Nat.le_refl 0) (e_8 c_1 c_3 c_11)
          · refine a_aload_n F 0 dX9_readTurn_77 rfl rfl ?_
            refine a_getr (b := 104) F fl_9_29 rfl (hB _ (by decide)) rfl ((hP 106 0 (by decide)).trans rfl) dX9_readTurn_78 ?_
            refine a_iconst (v := 1) F dX9_readTurn_81 (by decide) ?_
            refine a_callV (b := 104) (As := [.int 1]) (st := []) (ci := 5) F (c_5_fail (xl X) hP (rgI (up2 (nuI I (0 : Int32) (1 : Int32)) 132 1 ((nuI I (0 : Int32) (1 : Int32)) 104 6)) (A 121)) A J hB (1 : Int32)) ml_9_75 im_yX5_fail se_yX5_fail (by decide) (by decide) rfl (hB _ (by decide)) rfl rfl dX9_readTurn_82 (by decide) (Nat.le_refl 0) (Nat.le_refl 0) (hl_r (hB _ (by decide)) hl_nil) hs_nil ?_
            rintro _ _ _ ⟨rfl, rfl, rfl⟩ _
            show WA X (mC P O (faI (rgI (up2 (nuI I (0 : Int32) (1 : Int32)) 132 1 ((nuI I (0 : Int32) (1 : Int32)) 104 6)) (A 121)) (1 : Int32)) A J) pl 0 0 85 [(0, .ref 106)] [.int 0]
            refine a_if_eq (tgt := 92) F dX9_readTurn_85 (by decide) (fun (c_12 : (0 : Int32) = 0) => ?_) (fun (c_12 : ¬ ((0 : Int32) = 0)) => ?_)
            · refine a_iconst (v := 0) F dX9_readTurn_92 (by decide) ?_
              exact a_zret F E (by decide) dX9_readTurn_93 (Nat.le_refl 0) (Nat.le_refl 0) (e_9 c_1 c_3 c_11)
            · exact absurd c_12 (by decide)
        · exact absurd c_10 (by decide)
    · exact absurd c_2 (by decide)
  · refine a_if_ne (tgt := 14) F dX9_readTurn_9 (by decide) (fun (c_13 : ¬ (0 : Int32) = 0) => ?_) (fun (c_13 : (0 : Int32) = 0) => ?_)
    · exact absurd c_13 (by decide)
    · refine a_iconst (v := 0) F dX9_readTurn_12 (by decide) ?_
      exact a_zret F E (by decide) dX9_readTurn_13 (Nat.le_refl 0) (Nat.le_refl 0) (e_10 c_1)

set_option maxRecDepth 200000 in
theorem c_9_readTurn (l : Launch) {P O : Nat → Nat → Option Nat} (hP : laP P) (I A : Nat → Nat → Int32) (J : Nat → Nat → Int64) {pl : List Nat} (hB : inB pl) (n p sz : Nat) (rd al : Nat → Nat) (h : AtC I (A 121) n p sz) (hb : rdB (A 133) rd al) (hs : sumA rd al) : Con l 7 yX9_readTurn cX9_readTurn 1 (some .boolean) [.ref 106] (mC P O I A J) pl 0 0 (trnQ P O I A J pl (trnF (A 121) n p rd)) := by
  refine Con.of (by decide) (Nat.le_of_ble_eq_true rfl) (fun X hX9 hn9 F E => ?_)
  generalize hT : A 121 = T at h
  rw [hT] at E
  have v0 : vp_in ((0 : Int32) * 26 + 0) 52 := vp_in_nI (n := 0) (by omega) (by omega)
  have v1 : vp_in ((1 : Int32) * 26 + 0) 52 := vp_in_nI (n := 26) (by omega) (by omega)
  have a0 := (hb.2 0 (by omega)).2
  have a1 := (hb.2 1 (by omega)).2
  have q0 : A 133 ((0 : Int32) * 26 + 0).toNatClampNeg = 15 ↔ sumR rd 0 25 = 0 := by
    rw [show A 133 ((0 : Int32) * 26 + 0).toNatClampNeg = nI (15 - al 0) from (hb.2 0 (by omega)).1, ← show al 0 = sumR rd 0 25 from hs 0 (by omega), nI_eqn 15 (by omega) (by omega)]; omega
  have q1 : A 133 ((1 : Int32) * 26 + 0).toNatClampNeg = 15 ↔ sumR rd 26 25 = 0 := by
    rw [show A 133 ((1 : Int32) * 26 + 0).toNatClampNeg = nI (15 - al 1) from (hb.2 1 (by omega)).1, ← show al 1 = sumR rd 26 25 from hs 1 (by omega), nI_eqn 15 (by omega) (by omega)]; omega
  have er : ∀ {I1 : Nat → Nat → Int32} {c q : Nat}, FrT I I1 → I1 104 3 = nI q → trnF T n p rd = .error (c, q) → trnQ P O I A J pl (trnF T n p rd) (some (.int 0)) (mC P O (faI I1 (nI c)) A J) pl := fun {I1 c q} hf h3 he => by
    rw [he]
    exact ⟨rfl, _, rfl, hf.tr (FrT.of (fr_fa _ _)), rfl, rfl, h3⟩
  have i1 : AtC (up2 I 132 1 (I 104 6)) T n p sz := ac_fr h (fun q k hk => up2_p (by omega))
  have go : nuP I 0 1 → ¬ (sumR rd 0 25 = 0 ∧ sumR rd 26 25 = 0) → (((rgI (up2 I 132 1 (I 104 6)) T) 104 5 = 0 → trnQ P O I A J pl (trnF T n p rd) (some (.int 1)) (mC P O (rgI (up2 I 132 1 (I 104 6)) T) A J) pl) ∧ (¬ (rgI (up2 I 132 1 (I 104 6)) T) 104 5 = 0 → trnQ P O I A J pl (trnF T n p rd) (some (.int 0)) (mC P O (faI (rgI (up2 I 132 1 (I 104 6)) T) (nI 1)) A J) pl)) := fun z hn => by
    obtain ⟨s1, s2, s3, s4, s5, s6, s7⟩ := ac_num (lo := 0) (hi := 1) h (by omega) (by omega) z
    have h2 := ac_nx i1 s7
    have kn := (ac_kn h2).2.1
    have e0 : ∀ {e}, trnF T n p rd = e ↔ (if ¬ tkS T n (nxP T n p) = 0 then Except.error (1, nxP T n p) else .ok (tkN T n p)) = e := fun {e} => by
      unfold trnF; rw [if_neg (fun y => y s1), if_neg (show ¬ (tkV T n p < 0 ∨ 1 < tkV T n p) from s2), if_neg hn]
    have ff : FrT I (rgI (up2 I 132 1 (I 104 6)) T) := (ft_132 I 1 _).tr (FrT.of (fr_rg _ _))
    refine ⟨fun y => ?_, fun y => er ff h2.2.2.2.2.2.2.1 (e0.mpr (by rw [if_pos (fun w => y (kn.mpr w))]))⟩
    rw [e0.mpr (by rw [if_neg (fun w => w (kn.mp y))])]
    exact ⟨rfl, _, rfl, ff, rfl, (rg_78 _ _).1.trans (up2_p (by decide)), (rg_78 _ _).2.trans (up2_p (by decide)), s5, (rg_132 _ _).trans (up2_s.trans s6)⟩
  have okr : okRd (up2 I 132 1 (I 104 6)) := ac_rd i1
  refine r_9_readTurn_0 F E hP hB (fun _ => v0) (fun _ _ => v1) (fun z y0 y1 => ?_) (fun z _ _ => by rw [nu_in z]; exact okr) (fun z y0 y1 w => ?_) (fun z y0 y1 w => ?_) (fun z _ => by rw [nu_in z]; exact okr) (fun z y0 w => ?_) (fun z y0 w => ?_) (fun z => ?_)
  · rw [nu_in z]
    obtain ⟨s1, s2, -⟩ := ac_num (lo := 0) (hi := 1) h (by omega) (by omega) z
    refine er (c := 6) (FrT.rf I) h.2.2.2.2.2.2.1 ?_
    unfold trnF; rw [if_neg (fun y => y s1), if_neg (show ¬ (tkV T n p < 0 ∨ 1 < tkV T n p) from s2), if_pos ⟨q0.mp y0, q1.mp y1⟩]
  · rw [nu_in z, hT] at w ⊢; exact (go z (fun y => y1 (q1.mpr y.2))).1 w
  · rw [nu_in z, hT] at w ⊢; exact (go z (fun y => y1 (q1.mpr y.2))).2 w
  · rw [nu_in z, hT] at w ⊢; exact (go z (fun y => y0 (q0.mpr y.1))).1 w
  · rw [nu_in z, hT] at w ⊢; exact (go z (fun y => y0 (q0.mpr y.1))).2 w
  · obtain ⟨c, -, e1, e2⟩ := ac_non (lo := 0) (hi := 1) h (by omega) z
    rw [show nuI I 0 1 = faI I (nI c) from e1]
    refine er (FrT.rf I) h.2.2.2.2.2.2.1 ?_
    unfold trnF
    rcases e2 with ⟨e2, rfl⟩ | ⟨e2, e3, rfl⟩
    · rw [if_pos e2]
    · rw [if_neg (fun y => y e2), if_pos (show tkV T n p < 0 ∨ 1 < tkV T n p from e3)]

theorem posF_t (T : Nat → Int32) (n : Nat) : posF T n = (match stkT T n 0 (fun _ => 0) (endT bBl T n 0) with
  | .error e => .error e
  | .ok r1 => if ¬ (tkS T n r1.1 = 4 ∧ tkV T n r1.1 = 59) then .error (1, r1.1) else
    match stkT T n 1 r1.2 (nxP T n r1.1) with
    | .error e => .error e
    | .ok r2 => if ¬ (tkS T n r2.1 = 4 ∧ tkV T n r2.1 = 59) then .error (1, r2.1) else
      match trnF T n (nxP T n r2.1) r2.2 with
      | .error e => .error e
      | .ok w => .ok (w, r2.2)) := by
  unfold posF
  cases stkT T n 0 (fun _ => 0) (endT bBl T n 0) with
  | error e => rfl
  | ok r1 =>
    show (if _ then _ else _) = (if _ then _ else _)
    by_cases c1 : ¬ (tkS T n r1.1 = 4 ∧ tkV T n r1.1 = 59)
    · rw [if_pos c1, if_pos c1]
    rw [if_neg c1, if_neg c1]
    cases stkT T n 1 r1.2 (nxP T n r1.1) with
    | error e => rfl
    | ok r2 =>
      show (if _ then _ else _) = (if _ then _ else _)
      by_cases c2 : ¬ (tkS T n r2.1 = 4 ∧ tkV T n r2.1 = 59)
      · rw [if_pos c2, if_pos c2]
      rw [if_neg c2, if_neg c2]
      unfold trnF
      by_cases c3 : ¬ tkS T n (nxP T n r2.1) = 2
      · rw [if_pos c3, if_pos c3]
      rw [if_neg c3, if_neg c3]
      by_cases c4 : tkV T n (nxP T n r2.1) < 0 ∨ 1 < tkV T n (nxP T n r2.1)
      · rw [if_pos c4, if_pos c4]
      rw [if_neg c4, if_neg c4]
      by_cases c5 : sumR r2.2 0 25 = 0 ∧ sumR r2.2 26 25 = 0
      · rw [if_pos c5, if_pos c5]
      rw [if_neg c5, if_neg c5]
      by_cases c6 : ¬ tkS T n (nxP T n (nxP T n r2.1)) = 0
      · rw [if_pos c6, if_pos c6]
      rw [if_neg c6, if_neg c6]
def ppQ (P O : Nat → Nat → Option Nat) (I A : Nat → Nat → Int32) (J : Nat → Nat → Int64) (pl : List Nat) (res : Except (Nat × Nat) (Nat × (Nat → Nat))) : Option Value → HS → List Nat → Prop := fun rv σ' pl' => pl = pl' ∧ ∃ I' A', σ' = mC P O I' A' J ∧ FrT I I' ∧ (∀ q, q ≠ 133 → A' q = A q) ∧
  match res with
  | .error fp => rv = some (.int 0) ∧ I' 104 7 = nI fp.1 ∧ I' 104 8 = nI fp.2
  | .ok wr => rv = some (.int 1) ∧ I' 104 7 = 0 ∧ I' 104 8 = -1 ∧ wr.1 ≤ 1 ∧ I' 132 1 = nI wr.1 ∧ ∃ al, rdB (A' 133) wr.2 al ∧ sumA wr.2 al

theorem r_9_parsePosition_0 {X : Ctx} (F : Fx X cX9_parsePosition RX9 2 9 0 0) {P O : Nat → Nat → Option Nat} (hP : laP P) {I A : Nat → Nat → Int32} {J : Nat → Nat → Int64} {pl : List Nat} (hB : inB pl) {x1 : Int32}
    (o_1 : okRd (opI I x1))
    (e_2 : WA X (mC P O (up2 (rgI (opI I x1) (A 121)) 132 1 0) (up1 A 133 (clrR (A 133))) J) pl 0 0 17 [(0, .ref 106), (1, .int x1)] [.int 0, .ref 106]) :
    WA X (mC P O I A J) pl 0 0 0 [(0, .ref 106), (1, .int x1)] [] := by
  refine a_aload_n F 0 dX9_parsePosition_0 rfl rfl ?_
  refine a_getr (b := 104) F fl_9_29 rfl (hB _ (by decide)) rfl ((hP 106 0 (by decide)).trans rfl) dX9_parsePosition_1 ?_
  refine a_iload_n F 1 dX9_parsePosition_4 rfl rfl ?_
  refine a_callV (b := 104) (As := [.int x1]) (st := []) (ci := 5) F (c_5_open (xl X) hP I A J hB x1 (o_1)) ml_9_33 im_yX5_open se_yX5_open (by decide) (by decide) rfl (hB _ (by decide)) rfl rfl dX9_parsePosition_5 (by decide) (Nat.le_refl 0) (Nat.le_refl 0) (hl_r (hB _ (by decide)) (hl_i hl_nil)) hs_nil ?_
  rintro _ _ _ ⟨rfl, rfl, rfl⟩ _
  show WA X (mC P O (rgI (opI I x1) (A 121)) A J) pl 0 0 8 [(0, .ref 106), (1, .int x1)] []
  refine a_aload_n F 0 dX9_parsePosition_8 rfl rfl ?_
  refine a_getr (b := 132) F fl_9_12 rfl (hB _ (by decide)) rfl ((hP 106 1 (by decide)).trans rfl) dX9_parsePosition_9 ?_
  refine a_callV (b := 132) (As := []) (st := []) (ci := 0) F (c_0_clear (xl X) hP (rgI (opI I x1) (A 121)) A J hB 132 rfl (hB _ (by decide)) (hB _ (by decide))) ml_9_39 im_yX0_clear se_yX0_clear (by decide) (by decide) rfl (hB _ (by decide)) rfl rfl dX9_parsePosition_12 (by decide) (Nat.le_refl 0) (Nat.le_refl 0) (hl_r (hB _ (by decide)) (hl_i hl_nil)) hs_nil ?_
  rintro _ _ _ ⟨rfl, rfl, rfl⟩ _
  show WA X (mC P O (up2 (rgI (opI I x1) (A 121)) 132 1 0) (up1 A 133 (clrR (A 133))) J) pl 0 0 15 [(0, .ref 106), (1, .int x1)] []
  refine a_aload_n F 0 dX9_parsePosition_15 rfl rfl ?_
  refine a_iconst (v := 0) F dX9_parsePosition_16 (by decide) ?_
  exact e_2

theorem r_9_parsePosition_20 {X : Ctx} (F : Fx X cX9_parsePosition RX9 2 9 0 0) {Φ : Option Value → HS → List Nat → Prop} (E : Ex X (some .boolean) 0 0 Φ) {P O : Nat → Nat → Option Nat} (hP : laP P) {I A : Nat → Nat → Int32} {J : Nat → Nat → Int64} {pl : List Nat} (hB : inB pl) {x1 b1 : Int32}
    (e_1 : (b1 = 0) → Φ (some (.int 0)) (mC P O I A J) pl)
    (o_2 : (¬ (b1 = 0)) → okRd I)
    (e_3 : (¬ (b1 = 0)) → (sgP I (59 : Int32)) → WA X (mC P O (psI I (A 121) (59 : Int32)) A J) pl 0 0 37 [(0, .ref 106), (1, .int x1)] [.int 1, .ref 106])
    (e_4 : (¬ (b1 = 0)) → (¬ (sgP I (59 : Int32))) → Φ (some (.int 0)) (mC P O (psI I (A 121) (59 : Int32)) A J) pl) :
    WA X (mC P O I A J) pl 0 0 20 [(0, .ref 106), (1, .int x1)] [.int b1] := by
  refine a_if_eq (tgt := 66) F dX9_parsePosition_20 (by decide) (fun (c_1 : b1 = 0) => ?_) (fun (c_1 : ¬ (b1 = 0)) => ?_)
  · refine a_iconst (v := 0) F dX9_parsePosition_66 (by decide) ?_
    exact a_zret F E (by decide) dX9_parsePosition_67 (Nat.le_refl 0) (Nat.le_refl 0) (e_1 c_1)
  · refine a_aload_n F 0 dX9_parsePosition_23 rfl rfl ?_
    refine a_getr (b := 104) F fl_9_29 rfl (hB _ (by decide)) rfl ((hP 106 0 (by decide)).trans rfl) dX9_parsePosition_24 ?_
    refine a_bipush (v := 59) F dX9_parsePosition_27 (by decide) ?_
    refine a_callV (b := 104) (As := [.int 59]) (st := []) (ci := 5) F (c_5_passSign (xl X) hP I A J hB (59 : Int32) (o_2 c_1)) ml_9_46 im_yX5_passSign se_yX5_passSign (by decide) (by decide) rfl (hB _ (by decide)) rfl rfl dX9_parsePosition_29 (by decide) (Nat.le_refl 0) (Nat.le_refl 0) (hl_r (hB _ (by decide)) (hl_i hl_nil)) hs_nil ?_
    rintro _ _ _ ⟨rfl, rfl, rfl⟩ _
    show WA X (mC P O (psI I (A 121) (59 : Int32)) A J) pl 0 0 32 [(0, .ref 106), (1, .int x1)] [.int (@ite Int32 (sgP I (59 : Int32)) (Classical.propDecidable _) 1 0)]
    refine a_ite (fun (c_2 : sgP I (59 : Int32)) => ?_) (fun (c_2 : ¬ (sgP I (59 : Int32))) => ?_)
    · refine a_if_eq (tgt := 66) F dX9_parsePosition_32 (by decide) (fun (c_3 : (1 : Int32) = 0) => ?_) (fun (c_3 : ¬ ((1 : Int32) = 0)) => ?_)
      · exact absurd c_3 (by decide)
      · refine a_aload_n F 0 dX9_parsePosition_35 rfl rfl ?_
        refine a_iconst (v := 1) F dX9_parsePosition_36 (by decide) ?_
        exact e_3 c_1 c_2
    · refine a_if_eq (tgt := 66) F dX9_parsePosition_32 (by decide) (fun (c_4 : (0 : Int32) = 0) => ?_) (fun (c_4 : ¬ ((0 : Int32) = 0)) => ?_)
      · refine a_iconst (v := 0) F dX9_parsePosition_66 (by decide) ?_
        exact a_zret F E (by decide) dX9_parsePosition_67 (Nat.le_refl 0) (Nat.le_refl 0) (e_4 c_1 c_2)
      · exact absurd c_4 (by decide)

theorem r_9_parsePosition_40 {X : Ctx} (F : Fx X cX9_parsePosition RX9 2 9 0 0) {Φ : Option Value → HS → List Nat → Prop} (E : Ex X (some .boolean) 0 0 Φ) {P O : Nat → Nat → Option Nat} (hP : laP P) {I A : Nat → Nat → Int32} {J : Nat → Nat → Int64} {pl : List Nat} (hB : inB pl) {x1 b1 : Int32}
    (e_1 : (b1 = 0) → Φ (some (.int 0)) (mC P O I A J) pl)
    (o_2 : (¬ (b1 = 0)) → okRd I)
    (e_3 : (¬ (b1 = 0)) → (sgP I (59 : Int32)) → WA X (mC P O (psI I (A 121) (59 : Int32)) A J) pl 0 0 56 [(0, .ref 106), (1, .int x1)] [.ref 106])
    (e_4 : (¬ (b1 = 0)) → (¬ (sgP I (59 : Int32))) → Φ (some (.int 0)) (mC P O (psI I (A 121) (59 : Int32)) A J) pl) :
    WA X (mC P O I A J) pl 0 0 40 [(0, .ref 106), (1, .int x1)] [.int b1] := by
  refine a_if_eq (tgt := 66) F dX9_parsePosition_40 (by decide) (fun (c_5 : b1 = 0) => ?_) (fun (c_5 : ¬ (b1 = 0)) => ?_)
  · refine a_iconst (v := 0) F dX9_parsePosition_66 (by decide) ?_
    exact a_zret F E (by decide) dX9_parsePosition_67 (Nat.le_refl 0) (Nat.le_refl 0) (e_1 c_5)
  · refine a_aload_n F 0 dX9_parsePosition_43 rfl rfl ?_
    refine a_getr (b := 104) F fl_9_29 rfl (hB _ (by decide)) rfl ((hP 106 0 (by decide)).trans rfl) dX9_parsePosition_44 ?_
    refine a_bipush (v := 59) F dX9_parsePosition_47 (by decide) ?_
    refine a_callV (b := 104) (As := [.int 59]) (st := []) (ci := 5) F (c_5_passSign (xl X) hP I A J hB (59 : Int32) (o_2 c_5)) ml_9_46 im_yX5_passSign se_yX5_passSign (by decide) (by decide) rfl (hB _ (by decide)) rfl rfl dX9_parsePosition_49 (by decide) (Nat.le_refl 0) (Nat.le_refl 0) (hl_r (hB _ (by decide)) (hl_i hl_nil)) hs_nil ?_
    rintro _ _ _ ⟨rfl, rfl, rfl⟩ _
    show WA X (mC P O (psI I (A 121) (59 : Int32)) A J) pl 0 0 52 [(0, .ref 106), (1, .int x1)] [.int (@ite Int32 (sgP I (59 : Int32)) (Classical.propDecidable _) 1 0)]
    refine a_ite (fun (c_6 : sgP I (59 : Int32)) => ?_) (fun (c_6 : ¬ (sgP I (59 : Int32))) => ?_)
    · refine a_if_eq (tgt := 66) F dX9_parsePosition_52 (by decide) (fun (c_7 : (1 : Int32) = 0) => ?_) (fun (c_7 : ¬ ((1 : Int32) = 0)) => ?_)
      · exact absurd c_7 (by decide)
      · refine a_aload_n F 0 dX9_parsePosition_55 rfl rfl ?_
        exact e_3 c_5 c_6
    · refine a_if_eq (tgt := 66) F dX9_parsePosition_52 (by decide) (fun (c_8 : (0 : Int32) = 0) => ?_) (fun (c_8 : ¬ ((0 : Int32) = 0)) => ?_)
      · refine a_iconst (v := 0) F dX9_parsePosition_66 (by decide) ?_
        exact a_zret F E (by decide) dX9_parsePosition_67 (Nat.le_refl 0) (Nat.le_refl 0) (e_4 c_5 c_6)
      · exact absurd c_8 (by decide)

theorem r_9_parsePosition_59 {X : Ctx} (F : Fx X cX9_parsePosition RX9 2 9 0 0) {Φ : Option Value → HS → List Nat → Prop} (E : Ex X (some .boolean) 0 0 Φ) {P O : Nat → Nat → Option Nat} (hP : laP P) {I A : Nat → Nat → Int32} {J : Nat → Nat → Int64} {pl : List Nat} (hB : inB pl) {x1 b1 : Int32}
    (e_1 : (b1 = 0) → Φ (some (.int 0)) (mC P O I A J) pl)
    (e_2 : (¬ (b1 = 0)) → Φ (some (.int 1)) (mC P O I A J) pl) :
    WA X (mC P O I A J) pl 0 0 59 [(0, .ref 106), (1, .int x1)] [.int b1] := by
  refine a_if_eq (tgt := 66) F dX9_parsePosition_59 (by decide) (fun (c_9 : b1 = 0) => ?_) (fun (c_9 : ¬ (b1 = 0)) => ?_)
  · refine a_iconst (v := 0) F dX9_parsePosition_66 (by decide) ?_
    exact a_zret F E (by decide) dX9_parsePosition_67 (Nat.le_refl 0) (Nat.le_refl 0) (e_1 c_9)
  · refine a_iconst (v := 1) F dX9_parsePosition_62 (by decide) ?_
    refine a_goto (tgt := 67) F dX9_parsePosition_63 (by decide) ?_
    exact a_zret F E (by decide) dX9_parsePosition_67 (Nat.le_refl 0) (Nat.le_refl 0) (e_2 c_9)

set_option maxRecDepth 200000 in
theorem c_9_parsePosition (l : Launch) {P O : Nat → Nat → Option Nat} (hP : laP P) (I A : Nat → Nat → Int32) (J : Nat → Nat → Int64) {pl : List Nat} (hB : inB pl) (n sz : Nat) (h1 : n ≤ sz) (h2 : sz ≤ 400) (h3 : I 120 1 = nI sz) : Con l 9 yX9_parsePosition cX9_parsePosition 2 (some .boolean) [.ref 106, .int (nI n)] (mC P O I A J) pl 0 0 (ppQ P O I A J pl (posF (A 121) n)) := by
  refine Con.of (by decide) (Nat.le_of_ble_eq_true rfl) (fun X hX9 hn9 F E => ?_)
  generalize hT : A 121 = T
  rw [hT, posF_t] at E
  have hc0 : AtC (up2 (rgI (opI I (nI n)) T) 132 1 0) T n (endT bBl T n 0) sz := ac_fr (op_ac h1 h2 h3) (fun q k hk => up2_p (by omega))
  have f0 : FrT I (up2 (rgI (opI I (nI n)) T) 132 1 0) := ((ft_op I _).tr (FrT.of (fr_rg _ _))).tr (ft_132 _ _ _)
  have e70 : (up2 (rgI (opI I (nI n)) T) 132 1 0) 104 7 = 0 := (up2_p (by decide)).trans ((rg_78 _ _).1.trans (op_78 _ _).1)
  have e80 : (up2 (rgI (opI I (nI n)) T) 132 1 0) 104 8 = -1 := (up2_p (by decide)).trans ((rg_78 _ _).2.trans (op_78 _ _).2)
  refine r_9_parsePosition_0 F hP hB ⟨n, 0, sz, op_rd h1 h2 h3⟩ ?_
  rw [hT]
  generalize up2 (rgI (opI I (nI n)) T) 132 1 0 = I0 at hc0 f0 e70 e80
  have hA0 : ∀ q, q ≠ 133 → (up1 A 133 (clrR (A 133))) q = A q := fun q hq => up1_p hq
  have hb0 : rdB ((up1 A 133 (clrR (A 133))) 133) (fun _ => 0) (fun _ => 0) := by rw [up1_s]; exact rdB_0 _
  generalize up1 A 133 (clrR (A 133)) = A0 at hA0 hb0
  have T0 : A0 121 = T := (hA0 121 (by decide)).trans hT
  refine a_callV (b := 106) (As := [.int 0]) (st := []) (ci := 9) F (c_9_readMen (xl X) hP I0 A0 J hB n (endT bBl T n 0) sz 0 (fun _ => 0) (fun _ => 0) (by omega) (by rw [T0]; exact hc0) hb0 (fun q _ => (sumR_0 _ _).symm) rfl) ml_9_42 im_yX9_readMen se_yX9_readMen (by decide) (by decide) rfl (hB _ (by decide)) rfl rfl dX9_parsePosition_17 (by decide) (Nat.le_refl 0) (Nat.le_refl 0) (hl_r (hB _ (by decide)) (hl_i hl_nil)) hs_nil ?_
  rintro rv σ' pl' ⟨rfl, I1, A1, rfl, f1, hA1, hcase⟩ _
  rw [T0] at hcase
  have hA1 : ∀ q, q ≠ 133 → A1 q = A q := fun q hq => (hA1 q hq).trans (hA0 q hq)
  have T1 : A1 121 = T := (hA1 121 (by decide)).trans hT
  cases hr1 : stkT T n 0 (fun _ => 0) (endT bBl T n 0) with
  | error e =>
    rw [hr1] at hcase E
    obtain ⟨rfl, h7, h8⟩ := hcase
    exact r_9_parsePosition_20 F E hP hB (fun _ => ⟨rfl, _, _, rfl, f0.tr (FrT.of f1), hA1, rfl, h7, h8⟩) (fun z => absurd rfl z) (fun z => absurd rfl z) (fun z => absurd rfl z)
  | ok r1 =>
    rw [hr1] at hcase E
    obtain ⟨rfl, c1, h7, h8, al1, hb1, hs1, hal1⟩ := hcase
    have sg1 := ac_sg c1 59
    simp only [] at E
    refine r_9_parsePosition_20 F E hP hB (fun z => absurd z (by decide)) (fun _ => ac_rd c1) (fun _ z => ?_) (fun _ z => ?_)
    rotate_left
    · rw [ps_no z, if_pos (fun y => z (sg1.mpr y))]
      exact ⟨rfl, _, _, rfl, (f0.tr (FrT.of f1)).tr (FrT.of (fr_fa _ _)), hA1, rfl, rfl, c1.2.2.2.2.2.2.1⟩
    rw [ps_in z, T1]
    rw [if_neg (fun y => y (sg1.mp z))] at E
    have hl1 := ac_lt c1 (by rw [(sg1.mp z).1]; decide)
    have c2 := ac_nx c1 hl1
    have f2 := (f0.tr (FrT.of f1)).tr (FrT.of (fr_rg I1 T))
    have e71 : rgI I1 T 104 7 = 0 := (rg_78 _ _).1.trans (h7.trans e70)
    have e81 : rgI I1 T 104 8 = -1 := (rg_78 _ _).2.trans (h8.trans e80)
    generalize rgI I1 T = I2 at c2 f2 e71 e81
    refine a_callV (b := 106) (As := [.int 1]) (st := []) (ci := 9) F (c_9_readMen (xl X) hP I2 A1 J hB n (nxP T n r1.1) sz 1 r1.2 al1 (by omega) (by rw [T1]; exact c2) hb1 hs1 (hal1 1 (by decide))) ml_9_42 im_yX9_readMen se_yX9_readMen (by decide) (by decide) rfl (hB _ (by decide)) rfl rfl dX9_parsePosition_37 (by decide) (Nat.le_refl 0) (Nat.le_refl 0) (hl_r (hB _ (by decide)) (hl_i hl_nil)) hs_nil ?_
    rintro rv σ' pl' ⟨rfl, I3, A3, rfl, f3, hA3, hcase⟩ _
    rw [T1] at hcase
    have hA3 : ∀ q, q ≠ 133 → A3 q = A q := fun q hq => (hA3 q hq).trans (hA1 q hq)
    have T3 : A3 121 = T := (hA3 121 (by decide)).trans hT
    cases hr2 : stkT T n 1 r1.2 (nxP T n r1.1) with
    | error e =>
      rw [hr2] at hcase E
      obtain ⟨rfl, h7, h8⟩ := hcase
      exact r_9_parsePosition_40 F E hP hB (fun _ => ⟨rfl, _, _, rfl, f2.tr (FrT.of f3), hA3, rfl, h7, h8⟩) (fun z => absurd rfl z) (fun z => absurd rfl z) (fun z => absurd rfl z)
    | ok r2 =>
      rw [hr2] at hcase E
      obtain ⟨rfl, c3, h7, h8, al2, hb2, hs2, hal2⟩ := hcase
      have sg2 := ac_sg c3 59
      simp only [] at E
      refine r_9_parsePosition_40 F E hP hB (fun z => absurd z (by decide)) (fun _ => ac_rd c3) (fun _ z => ?_) (fun _ z => ?_)
      rotate_left
      · rw [ps_no z, if_pos (fun y => z (sg2.mpr y))]
        exact ⟨rfl, _, _, rfl, (f2.tr (FrT.of f3)).tr (FrT.of (fr_fa _ _)), hA3, rfl, rfl, c3.2.2.2.2.2.2.1⟩
      rw [ps_in z, T3]
      rw [if_neg (fun y => y (sg2.mp z))] at E
      have hl2 := ac_lt c3 (by rw [(sg2.mp z).1]; decide)
      have c4 := ac_nx c3 hl2
      have f4 := (f2.tr (FrT.of f3)).tr (FrT.of (fr_rg I3 T))
      have e72 : rgI I3 T 104 7 = 0 := (rg_78 _ _).1.trans (h7.trans e71)
      have e82 : rgI I3 T 104 8 = -1 := (rg_78 _ _).2.trans (h8.trans e81)
      generalize rgI I3 T = I4 at c4 f4 e72 e82
      refine a_callV (b := 106) (As := []) (st := []) (ci := 9) F (c_9_readTurn (xl X) hP I4 A3 J hB n (nxP T n r2.1) sz r2.2 al2 (by rw [T3]; exact c4) hb2 hs2) ml_9_50 im_yX9_readTurn se_yX9_readTurn (by decide) (by decide) rfl (hB _ (by decide)) rfl rfl dX9_parsePosition_56 (by decide) (Nat.le_refl 0) (Nat.le_refl 0) (hl_r (hB _ (by decide)) (hl_i hl_nil)) hs_nil ?_
      rintro rv σ' pl' ⟨rfl, I5, rfl, f5, hcase⟩ _
      rw [T3] at hcase
      cases hr3 : trnF T n (nxP T n r2.1) r2.2 with
      | error e =>
        rw [hr3] at hcase E
        obtain ⟨rfl, h7, h8⟩ := hcase
        exact r_9_parsePosition_59 F E hP hB (fun _ => ⟨rfl, _, _, rfl, f4.tr f5, hA3, rfl, h7, h8⟩) (fun z => absurd rfl z)
      | ok w =>
        rw [hr3] at hcase E
        obtain ⟨rfl, h7, h8, hw, h9⟩ := hcase
        exact r_9_parsePosition_59 F E hP hB (fun z => absurd z (by decide)) (fun _ => ⟨rfl, _, _, rfl, f4.tr f5, hA3, rfl, h7.trans e72, h8.trans e82, hw, h9, al2, hb2, hs2⟩)
