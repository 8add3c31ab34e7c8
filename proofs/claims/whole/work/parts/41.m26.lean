def diceP (a b : Int32) : Prop := (1 ≤ a ∧ a ≤ 6) ∧ (1 ≤ b ∧ b ≤ 6)
def mayP (I : Nat → Nat → Int32) (a b : Int32) : Prop := I 0 20 = 0 ∨ I 0 20 = 6 ∨ (I 0 20 = 3 ∧ ((a = I 0 28 ∧ b = I 0 29) ∨ (a = I 0 29 ∧ b = I 0 28)))
def playsQ (I A : Nat → Nat → Int32) (J : Nat → Nat → Int64) (m : Nat) (B0 : Nat → Nat) (a b : Int32) : Option Value → HS → List Nat → Prop := fun r σ' pl' =>
  (¬ diceP a b → PM (some (.int 0)) (up2 I 0 0 1) A J r σ' pl') ∧ (diceP a b → ¬ mayP I a b → PM (some (.int 0)) (up2 I 0 0 2) A J r σ' pl') ∧
  (diceP a b → mayP I a b → ∃ I' A', r = some (.int (I' 0 16)) ∧ frQ (up2 I 0 0 0) A J m (min a.toNatClampNeg b.toNatClampNeg) (max a.toNatClampNeg b.toNatClampNeg) B0 none σ' pl' ∧ σ' = mS I' A' J)

theorem r_12_plays_0 {X : Ctx} (F : Fx X cX12_plays RX12 3 7 0 0) {Φ : Option Value → HS → List Nat → Prop} (E : Ex X (some .int) 0 0 Φ) {I A : Nat → Nat → Int32} {J : Nat → Nat → Int64} {x1 x2 : Int32}
    (e_1 : (1 ≤ x1 ∧ x1 ≤ 6) → (1 ≤ x2 ∧ x2 ≤ 6) → ((I 0 20) = 0 ∨ (I 0 20) = 6 ∨ ((I 0 20) = 3 ∧ ((x1 = (I 0 28) ∧ x2 = (I 0 29)) ∨ (x1 = (I 0 29) ∧ x2 = (I 0 28))))) → WA X (mS (up2 I 0 0 0) A J) plM 0 0 51 [(0, .ref 0), (1, .int x1), (2, .int x2)] [.int x2, .int x1, .ref 0])
    (e_2 : (1 ≤ x1 ∧ x1 ≤ 6) → (1 ≤ x2 ∧ x2 ≤ 6) → (¬ ((I 0 20) = 0 ∨ (I 0 20) = 6 ∨ ((I 0 20) = 3 ∧ ((x1 = (I 0 28) ∧ x2 = (I 0 29)) ∨ (x1 = (I 0 29) ∧ x2 = (I 0 28)))))) → Φ (some (.int 0)) (mS (up2 (up2 I 0 0 0) 0 0 (2 : Int32)) A J) plM)
    (e_3 : (1 ≤ x1 ∧ x1 ≤ 6) → (¬ (1 ≤ x2 ∧ x2 ≤ 6)) → Φ (some (.int 0)) (mS (up2 (up2 I 0 0 0) 0 0 (1 : Int32)) A J) plM)
    (e_4 : (¬ (1 ≤ x1 ∧ x1 ≤ 6)) → Φ (some (.int 0)) (mS (up2 (up2 I 0 0 0) 0 0 (1 : Int32)) A J) plM) :
    WA X (mS I A J) plM 0 0 0 [(0, .ref 0), (1, .int x1), (2, .int x2)] [] := by
  refine a_aload_n F 0 dX12_plays_0 rfl rfl ?_
  refine a_iconst (v := 0) F dX12_plays_1 (by decide) ?_
  refine a_puti F fl_12_1 rfl rfl rfl rfl (by decide) rfl dX12_plays_2 ?_
  refine a_aload_n F 0 dX12_plays_5 rfl rfl ?_
  refine a_iload_n F 1 dX12_plays_6 rfl rfl ?_
  refine a_callS (As := [.int x1]) (st := [.ref 0]) F (c_isDie (xl X) (up2 I 0 0 0) A J x1) ml_12_236 sm_yX12_isDie (by decide) rfl dX12_plays_7 (Nat.le_of_ble_eq_true rfl) (Nat.le_refl 0) (Nat.le_refl 0) (hl_r (by decide) (hl_i (hl_i hl_nil))) (hs_r (by decide) hs_nil) ?_
  rintro _ _ _ ⟨rfl, rfl, rfl⟩ _
  show WA X (mS (up2 I 0 0 0) A J) plM 0 0 10 [(0, .ref 0), (1, .int x1), (2, .int x2)] [.int (if 1 ≤ x1 ∧ x1 ≤ 6 then 1 else 0), .ref 0]
  refine a_ite (fun (c_1 : 1 ≤ x1 ∧ x1 ≤ 6) => ?_) (fun (c_1 : ¬ (1 ≤ x1 ∧ x1 ≤ 6)) => ?_)
  · refine a_if_eq (tgt := 24) F dX12_plays_10 (by decide) (fun (c_2 : (1 : Int32) = 0) => ?_) (fun (c_2 : ¬ ((1 : Int32) = 0)) => ?_)
    · exact absurd c_2 (by decide)
    · refine a_iload_n F 2 dX12_plays_13 rfl rfl ?_
      refine a_callS (As := [.int x2]) (st := [.ref 0]) F (c_isDie (xl X) (up2 I 0 0 0) A J x2) ml_12_236 sm_yX12_isDie (by decide) rfl dX12_plays_14 (Nat.le_of_ble_eq_true rfl) (Nat.le_refl 0) (Nat.le_refl 0) (hl_r (by decide) (hl_i (hl_i hl_nil))) (hs_r (by decide) hs_nil) ?_
      rintro _ _ _ ⟨rfl, rfl, rfl⟩ _
      show WA X (mS (up2 I 0 0 0) A J) plM 0 0 17 [(0, .ref 0), (1, .int x1), (2, .int x2)] [.int (if 1 ≤ x2 ∧ x2 ≤ 6 then 1 else 0), .ref 0]
      refine a_ite (fun (c_3 : 1 ≤ x2 ∧ x2 ≤ 6) => ?_) (fun (c_3 : ¬ (1 ≤ x2 ∧ x2 ≤ 6)) => ?_)
      · refine a_if_eq (tgt := 24) F dX12_plays_17 (by decide) (fun (c_4 : (1 : Int32) = 0) => ?_) (fun (c_4 : ¬ ((1 : Int32) = 0)) => ?_)
        · exact absurd c_4 (by decide)
        · refine a_iconst (v := 1) F dX12_plays_20 (by decide) ?_
          refine a_goto (tgt := 25) F dX12_plays_21 (by decide) ?_
          refine a_iconst (v := 1) F dX12_plays_25 (by decide) ?_
          refine a_callV (b := 0) (As := [.int 1, .int 1]) (st := []) (ci := 12) F (c_may1 (xl X) (up2 I 0 0 0) A J (1 : Int32) (by decide) rfl) ml_12_155 im_yX12_may se_yX12_may (by decide) (by decide) rfl (by decide) rfl rfl dX12_plays_26 (by decide) (Nat.le_refl 0) (Nat.le_refl 0) (hl_r (by decide) (hl_i (hl_i hl_nil))) hs_nil ?_
          rintro _ _ _ ⟨rfl, rfl, rfl⟩ _
          show WA X (mS (up2 I 0 0 0) A J) plM 0 0 29 [(0, .ref 0), (1, .int x1), (2, .int x2)] [.int 1]
          refine a_if_eq (tgt := 46) F dX12_plays_29 (by decide) (fun (c_5 : (1 : Int32) = 0) => ?_) (fun (c_5 : ¬ ((1 : Int32) = 0)) => ?_)
          · exact absurd c_5 (by decide)
          · refine a_aload_n F 0 dX12_plays_32 rfl rfl ?_
            refine a_aload_n F 0 dX12_plays_33 rfl rfl ?_
            refine a_iload_n F 1 dX12_plays_34 rfl rfl ?_
            refine a_iload_n F 2 dX12_plays_35 rfl rfl ?_
            refine a_callV (b := 0) (As := [.int x1, .int x2]) (st := [.ref 0]) (ci := 12) F (c_mayPlay (xl X) (up2 I 0 0 0) A J x1 x2) ml_12_240 im_yX12_mayPlay se_yX12_mayPlay (by decide) (by decide) rfl (by decide) rfl rfl dX12_plays_36 (Nat.le_of_ble_eq_true rfl) (Nat.le_refl 0) (Nat.le_refl 0) (hl_r (by decide) (hl_i (hl_i hl_nil))) (hs_r (by decide) hs_nil) ?_
            rintro _ _ _ ⟨rfl, rfl, rfl⟩ _
            show WA X (mS (up2 I 0 0 0) A J) plM 0 0 39 [(0, .ref 0), (1, .int x1), (2, .int x2)] [.int (if (I 0 20) = 0 ∨ (I 0 20) = 6 ∨ ((I 0 20) = 3 ∧ ((x1 = (I 0 28) ∧ x2 = (I 0 29)) ∨ (x1 = (I 0 29) ∧ x2 = (I 0 28)))) then 1 else 0), .ref 0]
            refine a_ite (fun (c_6 : (I 0 20) = 0 ∨ (I 0 20) = 6 ∨ ((I 0 20) = 3 ∧ ((x1 = (I 0 28) ∧ x2 = (I 0 29)) ∨ (x1 = (I 0 29) ∧ x2 = (I 0 28))))) => ?_) (fun (c_6 : ¬ ((I 0 20) = 0 ∨ (I 0 20) = 6 ∨ ((I 0 20) = 3 ∧ ((x1 = (I 0 28) ∧ x2 = (I 0 29)) ∨ (x1 = (I 0 29) ∧ x2 = (I 0 28)))))) => ?_)
            · refine a_iconst (v := 2) F dX12_plays_39 (by decide) ?_
              refine a_callV (b := 0) (As := [.int 1, .int 2]) (st := []) (ci := 12) F (c_may1 (xl X) (up2 I 0 0 0) A J (2 : Int32) (by decide) rfl) ml_12_155 im_yX12_may se_yX12_may (by decide) (by decide) rfl (by decide) rfl rfl dX12_plays_40 (by decide) (Nat.le_refl 0) (Nat.le_refl 0) (hl_r (by decide) (hl_i (hl_i hl_nil))) hs_nil ?_
              rintro _ _ _ ⟨rfl, rfl, rfl⟩ _
              show WA X (mS (up2 I 0 0 0) A J) plM 0 0 43 [(0, .ref 0), (1, .int x1), (2, .int x2)] [.int 1]
              refine a_if_ne (tgt := 48) F dX12_plays_43 (by decide) (fun (c_7 : ¬ (1 : Int32) = 0) => ?_) (fun (c_7 : (1 : Int32) = 0) => ?_)
              · refine a_aload_n F 0 dX12_plays_48 rfl rfl ?_
                refine a_iload_n F 1 dX12_plays_49 rfl rfl ?_
                refine a_iload_n F 2 dX12_plays_50 rfl rfl ?_
                exact e_1 c_1 c_3 c_6
              · exact absurd c_7 (by decide)
            · refine a_iconst (v := 2) F dX12_plays_39 (by decide) ?_
              refine a_callV (b := 0) (As := [.int 0, .int 2]) (st := []) (ci := 12) F (c_may0 (xl X) (up2 I 0 0 0) A J (2 : Int32) (by decide) rfl) ml_12_155 im_yX12_may se_yX12_may (by decide) (by decide) rfl (by decide) rfl rfl dX12_plays_40 (by decide) (Nat.le_refl 0) (Nat.le_refl 0) (hl_r (by decide) (hl_i (hl_i hl_nil))) hs_nil ?_
              rintro _ _ _ ⟨rfl, rfl, rfl⟩ _
              show WA X (mS (up2 (up2 I 0 0 0) 0 0 (2 : Int32)) A J) plM 0 0 43 [(0, .ref 0), (1, .int x1), (2, .int x2)] [.int 0]
              refine a_if_ne (tgt := 48) F dX12_plays_43 (by decide) (fun (c_8 : ¬ (0 : Int32) = 0) => ?_) (fun (c_8 : (0 : Int32) = 0) => ?_)
              · exact absurd c_8 (by decide)
              · refine a_iconst (v := 0) F dX12_plays_46 (by decide) ?_
                exact a_iret F E dX12_plays_47 (Nat.le_refl 0) (Nat.le_refl 0) (e_2 c_1 c_3 c_6)
      · refine a_if_eq (tgt := 24) F dX12_plays_17 (by decide) (fun (c_9 : (0 : Int32) = 0) => ?_) (fun (c_9 : ¬ ((0 : Int32) = 0)) => ?_)
        · refine a_iconst (v := 0) F dX12_plays_24 (by decide) ?_
          refine a_iconst (v := 1) F dX12_plays_25 (by decide) ?_
          refine a_callV (b := 0) (As := [.int 0, .int 1]) (st := []) (ci := 12) F (c_may0 (xl X) (up2 I 0 0 0) A J (1 : Int32) (by decide) rfl) ml_12_155 im_yX12_may se_yX12_may (by decide) (by decide) rfl (by decide) rfl rfl dX12_plays_26 (by decide) (Nat.le_refl 0) (Nat.le_refl 0) (hl_r (by decide) (hl_i (hl_i hl_nil))) hs_nil ?_
          rintro _ _ _ ⟨rfl, rfl, rfl⟩ _
          show WA X (mS (up2 (up2 I 0 0 0) 0 0 (1 : Int32)) A J) plM 0 0 29 [(0, .ref 0), (1, .int x1), (2, .int x2)] [.int 0]
          refine a_if_eq (tgt := 46) F dX12_plays_29 (by decide) (fun (c_10 : (0 : Int32) = 0) => ?_) (fun (c_10 : ¬ ((0 : Int32) = 0)) => ?_)
          · refine a_iconst (v := 0) F dX12_plays_46 (by decide) ?_
            exact a_iret F E dX12_plays_47 (Nat.le_refl 0) (Nat.le_refl 0) (e_3 c_1 c_3)
          · exact absurd c_10 (by decide)
        · exact absurd c_9 (by decide)
  · refine a_if_eq (tgt := 24) F dX12_plays_10 (by decide) (fun (c_11 : (0 : Int32) = 0) => ?_) (fun (c_11 : ¬ ((0 : Int32) = 0)) => ?_)
    · refine a_iconst (v := 0) F dX12_plays_24 (by decide) ?_
      refine a_iconst (v := 1) F dX12_plays_25 (by decide) ?_
      refine a_callV (b := 0) (As := [.int 0, .int 1]) (st := []) (ci := 12) F (c_may0 (xl X) (up2 I 0 0 0) A J (1 : Int32) (by decide) rfl) ml_12_155 im_yX12_may se_yX12_may (by decide) (by decide) rfl (by decide) rfl rfl dX12_plays_26 (by decide) (Nat.le_refl 0) (Nat.le_refl 0) (hl_r (by decide) (hl_i (hl_i hl_nil))) hs_nil ?_
      rintro _ _ _ ⟨rfl, rfl, rfl⟩ _
      show WA X (mS (up2 (up2 I 0 0 0) 0 0 (1 : Int32)) A J) plM 0 0 29 [(0, .ref 0), (1, .int x1), (2, .int x2)] [.int 0]
      refine a_if_eq (tgt := 46) F dX12_plays_29 (by decide) (fun (c_12 : (0 : Int32) = 0) => ?_) (fun (c_12 : ¬ ((0 : Int32) = 0)) => ?_)
      · refine a_iconst (v := 0) F dX12_plays_46 (by decide) ?_
        exact a_iret F E dX12_plays_47 (Nat.le_refl 0) (Nat.le_refl 0) (e_4 c_1)
      · exact absurd c_12 (by decide)
    · exact absurd c_11 (by decide)

theorem r_12_plays_54 {X : Ctx} (F : Fx X cX12_plays RX12 3 7 0 0) {Φ : Option Value → HS → List Nat → Prop} (E : Ex X (some .int) 0 0 Φ) {I A : Nat → Nat → Int32} {J : Nat → Nat → Int64} {x1 x2 : Int32}
    (e_1 : Φ (some (.int (I 0 16))) (mS I A J) plM) :
    WA X (mS I A J) plM 0 0 54 [(0, .ref 0), (1, .int x1), (2, .int x2)] [] := by
  refine a_aload_n F 0 dX12_plays_54 rfl rfl ?_
  refine a_geti F fl_12_152 rfl (by decide) rfl dX12_plays_55 ?_
  exact a_iret F E dX12_plays_58 (Nat.le_refl 0) (Nat.le_refl 0) (e_1)

set_option maxRecDepth 10000 in
theorem c_plays (l : Launch) (I A : Nat → Nat → Int32) (J : Nat → Nat → Int64) (m : Nat) (B0 : Nat → Nat) (a b : Int32) (hm : m ≤ 1) (h2 : I 0 2 = nI m) (hok : okB B0) (hB : bdR (A 1) 0 B0) : Con l 7 yX12_plays cX12_plays 3 (some .int) [.ref 0, .int a, .int b] (mS I A J) plM 0 0 (playsQ I A J m B0 a b) := by
  refine Con.of (by decide) (Nat.le_of_ble_eq_true rfl) (fun X hX9 hn9 F E => ?_)
  refine r_12_plays_0 F E (fun c1 c2 c3 => ?_) (fun c1 c2 c3 => ?_) (fun c1 c2 => ?_) (fun c1 => ?_)
  · obtain ⟨a', ha1, rfl⟩ := nI_of2 (x := a) (M := 6) (n := 6) rfl (by grind) c1.2
    obtain ⟨b', hb1, rfl⟩ := nI_of2 (x := b) (M := 6) (n := 6) rfl (by grind) c2.2
    have ha2 := (nI_gen 1 (by omega) (by omega)).mp c1.1
    have hb2 := (nI_gen 1 (by omega) (by omega)).mp c2.1
    refine a_callV (b := 0) (As := [.int (nI a'), .int (nI b')]) (st := []) (ci := 12) F (c_findResults (xl X) (up2 I 0 0 0) A J a' b' m B0 ⟨ha2, ha1⟩ ⟨hb2, hb1⟩ hm (by rw [up2_k (by decide)]; exact h2) hok hB) ml_12_243 im_yX12_findResults se_yX12_findResults (by decide) (by decide) rfl (by decide) rfl rfl dX12_plays_51 (by decide) (Nat.le_refl 0) (Nat.le_refl 0) (hl_r (by decide) (hl_i (hl_i hl_nil))) hs_nil ?_
    rintro r σ' pl' hq _
    obtain ⟨I', A', len, g, rfl, rfl, rfl, h⟩ := hq
    show WA X (mS I' A' J) plM 0 0 54 [(0, .ref 0), (1, .int (nI a')), (2, .int (nI b'))] []
    refine r_12_plays_54 F E ?_
    refine ⟨fun z => absurd ⟨c1, c2⟩ z, fun _ z => absurd c3 z, fun _ _ => ⟨I', A', rfl, ?_, rfl⟩⟩
    rw [nI_clamp (by omega), nI_clamp (by omega)]
    exact ⟨I', A', len, g, rfl, rfl, rfl, h⟩
  · rw [up2_up2]; exact ⟨fun z => absurd ⟨c1, c2⟩ z, fun _ _ => ⟨rfl, rfl, rfl⟩, fun _ z => absurd z c3⟩
  · rw [up2_up2]; exact ⟨fun _ => ⟨rfl, rfl, rfl⟩, fun z => absurd z.2 c2, fun z => absurd z.2 c2⟩
  · rw [up2_up2]; exact ⟨fun _ => ⟨rfl, rfl, rfl⟩, fun z => absurd z.1 c1, fun z => absurd z.1 c1⟩
