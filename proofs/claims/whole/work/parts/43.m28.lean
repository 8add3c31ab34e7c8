theorem Ex.imp {X : Ctx} {ret : Option FieldType} {mc ms : Nat} {Φ Ψ : Option Value → HS → List Nat → Prop} (E : Ex X ret mc ms Φ) (h : ∀ r σ' pl', Ψ r σ' pl' → Φ r σ' pl') : Ex X ret mc ms Ψ :=
  ⟨E.1, E.2.1, fun H locs k1 k2 g w => E.2.2 H locs k1 k2 g (fun T hT X => by
    obtain ⟨t, a1, o, b1, b2, ⟨⟨r, σ', pl', ad', q1, q2, q3⟩, g5⟩, b3⟩ := w T hT X
    exact ⟨t, a1, o, b1, b2, ⟨⟨r, σ', pl', ad', q1, h r σ' pl' q2, q3⟩, g5⟩, b3⟩)⟩
def movesF (T : Nat → Int32) (n : Nat) : Nat → MV → Nat → Except (Nat × Nat) MV
  | 0, _, p => .error (1, p)
  | f + 1, mv, p => match moveF T n mv p with
    | .error e => .error e
    | .ok r => if tkS T n r.1 = 0 then .ok r.2 else movesF T n f r.2 r.1
def mv0 : MV := (0, fun _ => 0, fun _ => 0, fun _ => false)
def goodS (m x y first : Nat) (mv : MV) (B0 : Nat → Nat) : Prop := ∀ k, k < mv.1 → (hitP (sbd m x y first mv.2.1 B0 k) m (mv.2.1 k) (dieS x y first k) ↔ mv.2.2.2 k = true)
theorem steps_le {T : Nat → Int32} {n : Nat} : ∀ (f a : Nat) (mv : MV) (q : Nat) (r : Nat × MV), stepsF T n f a mv q = .ok r → mv.1 ≤ r.2.1
  | 0, a, mv, q, r, h => by unfold stepsF at h; cases h; exact Nat.le_refl _
  | f + 1, a, mv, q, r, h => by
    have ad : ∀ b s, (mvAdd mv a b s).1 = mv.1 + 1 := fun _ _ => rfl
    unfold stepsF at h
    repeat' (split at h)
    all_goals first
      | (cases h; done)
      | (cases h; rw [ad]; omega)
      | (have := steps_le f _ _ _ _ h; rw [ad] at this; omega)
theorem steps_lt {T : Nat → Int32} {n : Nat} (f a : Nat) (mv : MV) (q : Nat) (r : Nat × MV) (h : stepsF T n (f + 1) a mv q = .ok r) : mv.1 < r.2.1 := by
    have ad : ∀ b s, (mvAdd mv a b s).1 = mv.1 + 1 := fun _ _ => rfl
    unfold stepsF at h
    repeat' (split at h)
    all_goals first
      | (cases h; done)
      | (cases h; rw [ad]; omega)
      | (have := steps_le f _ _ _ _ h; rw [ad] at this; omega)
theorem tail_le {T : Nat → Int32} {n o q : Nat} {mv : MV} {r : Nat × MV} (ho : o ≤ mv.1) (h : tailF T n o q mv = .ok r) : mv.1 ≤ r.2.1 := by
  unfold tailF at h
  repeat' (split at h)
  all_goals first
    | (cases h; done)
    | (cases h; first | exact Nat.le_refl _ | (show mv.1 ≤ o + (mv.1 - o) + _; omega))
theorem move_more {T : Nat → Int32} {n p : Nat} {mv : MV} {r : Nat × MV} (h : moveF T n mv p = .ok r) : mv.1 < r.2.1 := by
  unfold moveF at h
  have key : ∀ a, (match stepsF T n (n + 1) a mv (nxP T n p) with | .error e => .error e | .ok r => tailF T n mv.1 r.1 r.2) = Except.ok r → mv.1 < r.2.1 := by
    intro a h
    cases hs : stepsF T n (n + 1) a mv (nxP T n p) with
    | error e => rw [hs] at h; cases h
    | ok r1 =>
      rw [hs] at h
      have h1 := steps_lt _ _ _ _ _ hs
      have h2 := tail_le (Nat.le_of_lt h1) h
      omega
  repeat' (split at h)
  all_goals first
    | (cases h; done)
    | exact key _ h
    | skip
  all_goals (first | (rename_i hs; exact key 25 (by rw [hs]; exact h)) | (rename_i hs; exact key _ (by rw [hs]; exact h)))
def frY (I I' : Nat → Nat → Int32) : Prop := ∀ k, (k < 8 ∨ (12 < k ∧ k < 16) ∨ (17 < k ∧ k < 37) ∨ 42 < k) → k ≠ 47 → I' 0 k = I 0 k
def sayT (I' A' : Nat → Nat → Int32) (m x y n : Nat) (B0 : Nat → Nat) (mv : MV) (r : Option Value) : Prop := ∃ len g cnt o T W, plyP m x y B0 len g ∧ I' 0 17 = nI len ∧ I' 0 16 = nI cnt ∧ tabR (A' 13) (A' 14) (A' 15) len cnt o T W ∧ tabS m (rchN m x y g (L0F x y) B0 len) cnt T W ∧
  ((¬ (mv.1 = len ∧ (allS m x y g 0 mv B0 ∨ allS m x y g 1 mv B0)) ∧ r = some (.int (-4)) ∧ I' 0 42 = nI n) ∨
   (∃ first, first ≤ 1 ∧ mv.1 = len ∧ allS m x y g first mv B0 ∧ ((¬ goodS m x y first mv B0 ∧ r = some (.int (-5)) ∧ I' 0 42 = nI n) ∨
     (goodS m x y first mv B0 ∧ I' 0 42 = -1 ∧ ∃ k, r = some (.int (nI k)) ∧ k ≤ cnt ∧ (∀ i, i < k → key m (sbd m x y first mv.2.1 B0 mv.1) < key m (T i)) ∧ (∀ i, k ≤ i → i < cnt → key m (T i) ≤ key m (sbd m x y first mv.2.1 B0 mv.1))))))
def sayR (I0 A : Nat → Nat → Int32) (J : Nat → Nat → Int64) (m x y n : Nat) (B0 : Nat → Nat) (res : Except (Nat × Nat) MV) : Option Value → HS → List Nat → Prop := fun r σ' pl' => pl' = plM ∧ ∃ I' A', σ' = mS I' A' J ∧
  match res with
  | .error fp => fp.1 ≠ 0 ∧ fp.1 < 10 ∧ fp.2 ≤ n ∧ r = some (.int (-1 - nI fp.1)) ∧ FrM I0 I' ∧ I' 0 42 = nI fp.2 ∧ ∀ q, q ≠ 44 → q ≠ 45 → q ≠ 46 → A' q = A q
  | .ok mv => frY I0 I' ∧ (∀ q, q ≠ 3 → q ≠ 4 → q ≠ 5 → q ≠ 6 → q ≠ 7 → q ≠ 13 → q ≠ 14 → q ≠ 15 → q ≠ 44 → q ≠ 45 → q ≠ 46 → q ≠ 48 → A' q = A q) ∧ sayT I' A' m x y n B0 mv r

theorem r_12_say_0 {X : Ctx} (F : Fx X cX12_say RX12 7 7 0 0) {Φ : Option Value → HS → List Nat → Prop} (E : Ex X (some .int) 0 0 Φ) {I A : Nat → Nat → Int32} {J : Nat → Nat → Int64} {x1 x2 x3 : Int32}
    (e_1 : (x1 < 0) → Φ (some (.int 0)) (mS (up2 (up2 I 0 0 0) 0 0 (1 : Int32)) A J) plM)
    (e_2 : (¬ (x1 < 0)) → ((I 0 35) < x1) → Φ (some (.int 0)) (mS (up2 (up2 I 0 0 0) 0 0 (1 : Int32)) A J) plM)
    (o_3 : (¬ (x1 < 0)) → (¬ ((I 0 35) < x1)) → (1 ≤ x2 ∧ x2 ≤ 6) → (1 ≤ x3 ∧ x3 ≤ 6) → ((I 0 20) = 0 ∨ (I 0 20) = 6 ∨ ((I 0 20) = 3 ∧ ((x2 = (I 0 28) ∧ x3 = (I 0 29)) ∨ (x2 = (I 0 29) ∧ x3 = (I 0 28))))) → 0 ≤ x1 ∧ x1 ≤ 400)
    (e_4 : (¬ (x1 < 0)) → (¬ ((I 0 35) < x1)) → (1 ≤ x2 ∧ x2 ≤ 6) → (1 ≤ x3 ∧ x3 ≤ 6) → ((I 0 20) = 0 ∨ (I 0 20) = 6 ∨ ((I 0 20) = 3 ∧ ((x2 = (I 0 28) ∧ x3 = (I 0 29)) ∨ (x2 = (I 0 29) ∧ x3 = (I 0 28))))) → WA X (mS (up2 (gonI (up2 (up2 (up2 (up2 (up2 (up2 I 0 0 0) 0 36 x1) 0 35 0) 0 37 0) 0 41 0) 0 42 (-1)) A) 0 47 0) A J) plM 0 0 71 [(0, .ref 0), (1, .int x1), (2, .int x2), (3, .int x3)] [.ref 0])
    (e_5 : (¬ (x1 < 0)) → (¬ ((I 0 35) < x1)) → (1 ≤ x2 ∧ x2 ≤ 6) → (1 ≤ x3 ∧ x3 ≤ 6) → (¬ ((I 0 20) = 0 ∨ (I 0 20) = 6 ∨ ((I 0 20) = 3 ∧ ((x2 = (I 0 28) ∧ x3 = (I 0 29)) ∨ (x2 = (I 0 29) ∧ x3 = (I 0 28)))))) → Φ (some (.int 0)) (mS (up2 (up2 I 0 0 0) 0 0 (2 : Int32)) A J) plM)
    (e_6 : (¬ (x1 < 0)) → (¬ ((I 0 35) < x1)) → (1 ≤ x2 ∧ x2 ≤ 6) → (¬ (1 ≤ x3 ∧ x3 ≤ 6)) → Φ (some (.int 0)) (mS (up2 (up2 I 0 0 0) 0 0 (1 : Int32)) A J) plM)
    (e_7 : (¬ (x1 < 0)) → (¬ ((I 0 35) < x1)) → (¬ (1 ≤ x2 ∧ x2 ≤ 6)) → Φ (some (.int 0)) (mS (up2 (up2 I 0 0 0) 0 0 (1 : Int32)) A J) plM) :
    WA X (mS I A J) plM 0 0 0 [(0, .ref 0), (1, .int x1), (2, .int x2), (3, .int x3)] [] := by
  refine a_aload_n F 0 dX12_say_0 rfl rfl ?_
  refine a_iconst (v := 0) F dX12_say_1 (by decide) ?_
  refine a_puti F fl_12_1 rfl rfl rfl rfl (by decide) rfl dX12_say_2 ?_
  refine a_aload_n F 0 dX12_say_5 rfl rfl ?_
  refine a_iload_n F 1 dX12_say_6 rfl rfl ?_
  refine a_if_lt (tgt := 36) F dX12_say_7 (by decide) (fun (c_1 : x1 < 0) => ?_) (fun (c_1 : ¬ (x1 < 0)) => ?_)
  · refine a_iconst (v := 0) F dX12_say_36 (by decide) ?_
    refine a_iconst (v := 1) F dX12_say_37 (by decide) ?_
    refine a_callV (b := 0) (As := [.int 0, .int 1]) (st := []) (ci := 12) F (c_may0 (xl X) (up2 I 0 0 0) A J (1 : Int32) (by decide) rfl) ml_12_155 im_yX12_may se_yX12_may (by decide) (by decide) rfl (by decide) rfl rfl dX12_say_38 (by decide) (Nat.le_refl 0) (Nat.le_refl 0) (hl_r (by decide) (hl_i (hl_i (hl_i hl_nil)))) hs_nil ?_
    rintro _ _ _ ⟨rfl, rfl, rfl⟩ _
    show WA X (mS (up2 (up2 I 0 0 0) 0 0 (1 : Int32)) A J) plM 0 0 41 [(0, .ref 0), (1, .int x1), (2, .int x2), (3, .int x3)] [.int 0]
    refine a_if_eq (tgt := 58) F dX12_say_41 (by decide) (fun (c_2 : (0 : Int32) = 0) => ?_) (fun (c_2 : ¬ ((0 : Int32) = 0)) => ?_)
    · refine a_iconst (v := 0) F dX12_say_58 (by decide) ?_
      exact a_iret F E dX12_say_59 (Nat.le_refl 0) (Nat.le_refl 0) (e_1 c_1)
    · exact absurd c_2 (by decide)
  · refine a_iload_n F 1 dX12_say_10 rfl rfl ?_
    refine a_aload_n F 0 dX12_say_11 rfl rfl ?_
    refine a_geti F fl_12_167 rfl (by decide) rfl dX12_say_12 ?_
    refine a_icmp_gt (tgt := 36) F dX12_say_15 (by decide) (fun (c_3 : (I 0 35) < x1) => ?_) (fun (c_3 : ¬ ((I 0 35) < x1)) => ?_)
    · refine a_iconst (v := 0) F dX12_say_36 (by decide) ?_
      refine a_iconst (v := 1) F dX12_say_37 (by decide) ?_
      refine a_callV (b := 0) (As := [.int 0, .int 1]) (st := []) (ci := 12) F (c_may0 (xl X) (up2 I 0 0 0) A J (1 : Int32) (by decide) rfl) ml_12_155 im_yX12_may se_yX12_may (by decide) (by decide) rfl (by decide) rfl rfl dX12_say_38 (by decide) (Nat.le_refl 0) (Nat.le_refl 0) (hl_r (by decide) (hl_i (hl_i (hl_i hl_nil)))) hs_nil ?_
      rintro _ _ _ ⟨rfl, rfl, rfl⟩ _
      show WA X (mS (up2 (up2 I 0 0 0) 0 0 (1 : Int32)) A J) plM 0 0 41 [(0, .ref 0), (1, .int x1), (2, .int x2), (3, .int x3)] [.int 0]
      refine a_if_eq (tgt := 58) F dX12_say_41 (by decide) (fun (c_4 : (0 : Int32) = 0) => ?_) (fun (c_4 : ¬ ((0 : Int32) = 0)) => ?_)
      · refine a_iconst (v := 0) F dX12_say_58 (by decide) ?_
        exact a_iret F E dX12_say_59 (Nat.le_refl 0) (Nat.le_refl 0) (e_2 c_1 c_3)
      · exact absurd c_4 (by decide)
    · refine a_iload_n F 2 dX12_say_18 rfl rfl ?_
      refine a_callS (As := [.int x2]) (st := [.ref 0]) F (c_isDie (xl X) (up2 I 0 0 0) A J x2) ml_12_236 sm_yX12_isDie (by decide) rfl dX12_say_19 (Nat.le_of_ble_eq_true rfl) (Nat.le_refl 0) (Nat.le_refl 0) (hl_r (by decide) (hl_i (hl_i (hl_i hl_nil)))) (hs_r (by decide) hs_nil) ?_
      rintro _ _ _ ⟨rfl, rfl, rfl⟩ _
      show WA X (mS (up2 I 0 0 0) A J) plM 0 0 22 [(0, .ref 0), (1, .int x1), (2, .int x2), (3, .int x3)] [.int (if 1 ≤ x2 ∧ x2 ≤ 6 then 1 else 0), .ref 0]
      refine a_ite (fun (c_5 : 1 ≤ x2 ∧ x2 ≤ 6) => ?_) (fun (c_5 : ¬ (1 ≤ x2 ∧ x2 ≤ 6)) => ?_)
      · refine a_if_eq (tgt := 36) F dX12_say_22 (by decide) (fun (c_6 : (1 : Int32) = 0) => ?_) (fun (c_6 : ¬ ((1 : Int32) = 0)) => ?_)
        · exact absurd c_6 (by decide)
        · refine a_iload_n F 3 dX12_say_25 rfl rfl ?_
          refine a_callS (As := [.int x3]) (st := [.ref 0]) F (c_isDie (xl X) (up2 I 0 0 0) A J x3) ml_12_236 sm_yX12_isDie (by decide) rfl dX12_say_26 (Nat.le_of_ble_eq_true rfl) (Nat.le_refl 0) (Nat.le_refl 0) (hl_r (by decide) (hl_i (hl_i (hl_i hl_nil)))) (hs_r (by decide) hs_nil) ?_
          rintro _ _ _ ⟨rfl, rfl, rfl⟩ _
          show WA X (mS (up2 I 0 0 0) A J) plM 0 0 29 [(0, .ref 0), (1, .int x1), (2, .int x2), (3, .int x3)] [.int (if 1 ≤ x3 ∧ x3 ≤ 6 then 1 else 0), .ref 0]
          refine a_ite (fun (c_7 : 1 ≤ x3 ∧ x3 ≤ 6) => ?_) (fun (c_7 : ¬ (1 ≤ x3 ∧ x3 ≤ 6)) => ?_)
          · refine a_if_eq (tgt := 36) F dX12_say_29 (by decide) (fun (c_8 : (1 : Int32) = 0) => ?_) (fun (c_8 : ¬ ((1 : Int32) = 0)) => ?_)
            · exact absurd c_8 (by decide)
            · refine a_iconst (v := 1) F dX12_say_32 (by decide) ?_
              refine a_goto (tgt := 37) F dX12_say_33 (by decide) ?_
              refine a_iconst (v := 1) F dX12_say_37 (by decide) ?_
              refine a_callV (b := 0) (As := [.int 1, .int 1]) (st := []) (ci := 12) F (c_may1 (xl X) (up2 I 0 0 0) A J (1 : Int32) (by decide) rfl) ml_12_155 im_yX12_may se_yX12_may (by decide) (by decide) rfl (by decide) rfl rfl dX12_say_38 (by decide) (Nat.le_refl 0) (Nat.le_refl 0) (hl_r (by decide) (hl_i (hl_i (hl_i hl_nil)))) hs_nil ?_
              rintro _ _ _ ⟨rfl, rfl, rfl⟩ _
              show WA X (mS (up2 I 0 0 0) A J) plM 0 0 41 [(0, .ref 0), (1, .int x1), (2, .int x2), (3, .int x3)] [.int 1]
              refine a_if_eq (tgt := 58) F dX12_say_41 (by decide) (fun (c_9 : (1 : Int32) = 0) => ?_) (fun (c_9 : ¬ ((1 : Int32) = 0)) => ?_)
              · exact absurd c_9 (by decide)
              · refine a_aload_n F 0 dX12_say_44 rfl rfl ?_
                refine a_aload_n F 0 dX12_say_45 rfl rfl ?_
                refine a_iload_n F 2 dX12_say_46 rfl rfl ?_
                refine a_iload_n F 3 dX12_say_47 rfl rfl ?_
                refine a_callV (b := 0) (As := [.int x2, .int x3]) (st := [.ref 0]) (ci := 12) F (c_mayPlay (xl X) (up2 I 0 0 0) A J x2 x3) ml_12_240 im_yX12_mayPlay se_yX12_mayPlay (by decide) (by decide) rfl (by decide) rfl rfl dX12_say_48 (Nat.le_of_ble_eq_true rfl) (Nat.le_refl 0) (Nat.le_refl 0) (hl_r (by decide) (hl_i (hl_i (hl_i hl_nil)))) (hs_r (by decide) hs_nil) ?_
                rintro _ _ _ ⟨rfl, rfl, rfl⟩ _
                show WA X (mS (up2 I 0 0 0) A J) plM 0 0 51 [(0, .ref 0), (1, .int x1), (2, .int x2), (3, .int x3)] [.int (if (I 0 20) = 0 ∨ (I 0 20) = 6 ∨ ((I 0 20) = 3 ∧ ((x2 = (I 0 28) ∧ x3 = (I 0 29)) ∨ (x2 = (I 0 29) ∧ x3 = (I 0 28)))) then 1 else 0), .ref 0]
                refine a_ite (fun (c_10 : (I 0 20) = 0 ∨ (I 0 20) = 6 ∨ ((I 0 20) = 3 ∧ ((x2 = (I 0 28) ∧ x3 = (I 0 29)) ∨ (x2 = (I 0 29) ∧ x3 = (I 0 28))))) => ?_) (fun (c_10 : ¬ ((I 0 20) = 0 ∨ (I 0 20) = 6 ∨ ((I 0 20) = 3 ∧ ((x2 = (I 0 28) ∧ x3 = (I 0 29)) ∨ (x2 = (I 0 29) ∧ x3 = (I 0 28)))))) => ?_)
                · refine a_iconst (v := 2) F dX12_say_51 (by decide) ?_
                  refine a_callV (b := 0) (As := [.int 1, .int 2]) (st := []) (ci := 12) F (c_may1 (xl X) (up2 I 0 0 0) A J (2 : Int32) (by decide) rfl) ml_12_155 im_yX12_may se_yX12_may (by decide) (by decide) rfl (by decide) rfl rfl dX12_say_52 (by decide) (Nat.le_refl 0) (Nat.le_refl 0) (hl_r (by decide) (hl_i (hl_i (hl_i hl_nil)))) hs_nil ?_
                  rintro _ _ _ ⟨rfl, rfl, rfl⟩ _
                  show WA X (mS (up2 I 0 0 0) A J) plM 0 0 55 [(0, .ref 0), (1, .int x1), (2, .int x2), (3, .int x3)] [.int 1]
                  refine a_if_ne (tgt := 60) F dX12_say_55 (by decide) (fun (c_11 : ¬ (1 : Int32) = 0) => ?_) (fun (c_11 : (1 : Int32) = 0) => ?_)
                  · refine a_aload_n F 0 dX12_say_60 rfl rfl ?_
                    refine a_iload_n F 1 dX12_say_61 rfl rfl ?_
                    refine a_callV (b := 0) (As := [.int x1]) (st := []) (ci := 12) F (c_beginText (xl X) (up2 I 0 0 0) A J x1 (o_3 c_1 c_3 c_5 c_7 c_10)) ml_12_322 im_yX12_beginText se_yX12_beginText (by decide) (by decide) rfl (by decide) rfl rfl dX12_say_62 (by decide) (Nat.le_refl 0) (Nat.le_refl 0) (hl_r (by decide) (hl_i (hl_i (hl_i hl_nil)))) hs_nil ?_
                    rintro _ _ _ ⟨rfl, rfl, rfl⟩ _
                    show WA X (mS (gonI (up2 (up2 (up2 (up2 (up2 (up2 I 0 0 0) 0 36 x1) 0 35 0) 0 37 0) 0 41 0) 0 42 (-1)) A) A J) plM 0 0 65 [(0, .ref 0), (1, .int x1), (2, .int x2), (3, .int x3)] []
                    refine a_aload_n F 0 dX12_say_65 rfl rfl ?_
                    refine a_iconst (v := 0) F dX12_say_66 (by decide) ?_
                    refine a_puti F fl_12_334 rfl rfl rfl rfl (by decide) rfl dX12_say_67 ?_
                    refine a_aload_n F 0 dX12_say_70 rfl rfl ?_
                    exact e_4 c_1 c_3 c_5 c_7 c_10
                  · exact absurd c_11 (by decide)
                · refine a_iconst (v := 2) F dX12_say_51 (by decide) ?_
                  refine a_callV (b := 0) (As := [.int 0, .int 2]) (st := []) (ci := 12) F (c_may0 (xl X) (up2 I 0 0 0) A J (2 : Int32) (by decide) rfl) ml_12_155 im_yX12_may se_yX12_may (by decide) (by decide) rfl (by decide) rfl rfl dX12_say_52 (by decide) (Nat.le_refl 0) (Nat.le_refl 0) (hl_r (by decide) (hl_i (hl_i (hl_i hl_nil)))) hs_nil ?_
                  rintro _ _ _ ⟨rfl, rfl, rfl⟩ _
                  show WA X (mS (up2 (up2 I 0 0 0) 0 0 (2 : Int32)) A J) plM 0 0 55 [(0, .ref 0), (1, .int x1), (2, .int x2), (3, .int x3)] [.int 0]
                  refine a_if_ne (tgt := 60) F dX12_say_55 (by decide) (fun (c_12 : ¬ (0 : Int32) = 0) => ?_) (fun (c_12 : (0 : Int32) = 0) => ?_)
                  · exact absurd c_12 (by decide)
                  · refine a_iconst (v := 0) F dX12_say_58 (by decide) ?_
                    exact a_iret F E dX12_say_59 (Nat.le_refl 0) (Nat.le_refl 0) (e_5 c_1 c_3 c_5 c_7 c_10)
          · refine a_if_eq (tgt := 36) F dX12_say_29 (by decide) (fun (c_13 : (0 : Int32) = 0) => ?_) (fun (c_13 : ¬ ((0 : Int32) = 0)) => ?_)
            · refine a_iconst (v := 0) F dX12_say_36 (by decide) ?_
              refine a_iconst (v := 1) F dX12_say_37 (by decide) ?_
              refine a_callV (b := 0) (As := [.int 0, .int 1]) (st := []) (ci := 12) F (c_may0 (xl X) (up2 I 0 0 0) A J (1 : Int32) (by decide) rfl) ml_12_155 im_yX12_may se_yX12_may (by decide) (by decide) rfl (by decide) rfl rfl dX12_say_38 (by decide) (Nat.le_refl 0) (Nat.le_refl 0) (hl_r (by decide) (hl_i (hl_i (hl_i hl_nil)))) hs_nil ?_
              rintro _ _ _ ⟨rfl, rfl, rfl⟩ _
              show WA X (mS (up2 (up2 I 0 0 0) 0 0 (1 : Int32)) A J) plM 0 0 41 [(0, .ref 0), (1, .int x1), (2, .int x2), (3, .int x3)] [.int 0]
              refine a_if_eq (tgt := 58) F dX12_say_41 (by decide) (fun (c_14 : (0 : Int32) = 0) => ?_) (fun (c_14 : ¬ ((0 : Int32) = 0)) => ?_)
              · refine a_iconst (v := 0) F dX12_say_58 (by decide) ?_
                exact a_iret F E dX12_say_59 (Nat.le_refl 0) (Nat.le_refl 0) (e_6 c_1 c_3 c_5 c_7)
              · exact absurd c_14 (by decide)
            · exact absurd c_13 (by decide)
      · refine a_if_eq (tgt := 36) F dX12_say_22 (by decide) (fun (c_15 : (0 : Int32) = 0) => ?_) (fun (c_15 : ¬ ((0 : Int32) = 0)) => ?_)
        · refine a_iconst (v := 0) F dX12_say_36 (by decide) ?_
          refine a_iconst (v := 1) F dX12_say_37 (by decide) ?_
          refine a_callV (b := 0) (As := [.int 0, .int 1]) (st := []) (ci := 12) F (c_may0 (xl X) (up2 I 0 0 0) A J (1 : Int32) (by decide) rfl) ml_12_155 im_yX12_may se_yX12_may (by decide) (by decide) rfl (by decide) rfl rfl dX12_say_38 (by decide) (Nat.le_refl 0) (Nat.le_refl 0) (hl_r (by decide) (hl_i (hl_i (hl_i hl_nil)))) hs_nil ?_
          rintro _ _ _ ⟨rfl, rfl, rfl⟩ _
          show WA X (mS (up2 (up2 I 0 0 0) 0 0 (1 : Int32)) A J) plM 0 0 41 [(0, .ref 0), (1, .int x1), (2, .int x2), (3, .int x3)] [.int 0]
          refine a_if_eq (tgt := 58) F dX12_say_41 (by decide) (fun (c_16 : (0 : Int32) = 0) => ?_) (fun (c_16 : ¬ ((0 : Int32) = 0)) => ?_)
          · refine a_iconst (v := 0) F dX12_say_58 (by decide) ?_
            exact a_iret F E dX12_say_59 (Nat.le_refl 0) (Nat.le_refl 0) (e_7 c_1 c_3 c_5)
          · exact absurd c_16 (by decide)
        · exact absurd c_15 (by decide)

theorem r_12_say_74 {X : Ctx} (F : Fx X cX12_say RX12 7 7 0 0) {Φ : Option Value → HS → List Nat → Prop} (E : Ex X (some .int) 0 0 Φ) {I A : Nat → Nat → Int32} {J : Nat → Nat → Int64} {x1 x2 x3 : Int32}
    (e_1 : ((I 0 41) = 0) → ((I 0 38) = 0) → WA X (mS I A J) plM 0 0 112 [(0, .ref 0), (1, .int x1), (2, .int x2), (3, .int x3)] [.int x3, .int x2, .ref 0])
    (e_2 : ((I 0 41) = 0) → (¬ ((I 0 38) = 0)) → WA X (mS I A J) plM 0 0 89 [(0, .ref 0), (1, .int x1), (2, .int x2), (3, .int x3)] [.ref 0])
    (e_3 : (¬ ((I 0 41) = 0)) → Φ (some (.int ((-1) - (I 0 41)))) (mS I A J) plM) :
    WA X (mS I A J) plM 0 0 74 [(0, .ref 0), (1, .int x1), (2, .int x2), (3, .int x3)] [] := by
  refine a_aload_n F 0 dX12_say_74 rfl rfl ?_
  refine a_callV (b := 0) (As := []) (st := []) (ci := 12) F (c_fine (xl X) I A J ) ml_12_310 im_yX12_fine se_yX12_fine (by decide) (by decide) rfl (by decide) rfl rfl dX12_say_75 (by decide) (Nat.le_refl 0) (Nat.le_refl 0) (hl_r (by decide) (hl_i (hl_i (hl_i hl_nil)))) hs_nil ?_
  rintro _ _ _ ⟨rfl, rfl, rfl⟩ _
  show WA X (mS I A J) plM 0 0 78 [(0, .ref 0), (1, .int x1), (2, .int x2), (3, .int x3)] [.int (if (I 0 41) = 0 then 1 else 0)]
  refine a_ite (fun (c_17 : (I 0 41) = 0) => ?_) (fun (c_17 : ¬ ((I 0 41) = 0)) => ?_)
  · refine a_if_eq (tgt := 95) F dX12_say_78 (by decide) (fun (c_18 : (1 : Int32) = 0) => ?_) (fun (c_18 : ¬ ((1 : Int32) = 0)) => ?_)
    · exact absurd c_18 (by decide)
    · refine a_aload_n F 0 dX12_say_81 rfl rfl ?_
      refine a_geti F fl_12_302 rfl (by decide) rfl dX12_say_82 ?_
      refine a_if_eq (tgt := 95) F dX12_say_85 (by decide) (fun (c_19 : (I 0 38) = 0) => ?_) (fun (c_19 : ¬ ((I 0 38) = 0)) => ?_)
      · refine a_aload_n F 0 dX12_say_95 rfl rfl ?_
        refine a_callV (b := 0) (As := []) (st := []) (ci := 12) F (c_fine (xl X) I A J ) ml_12_310 im_yX12_fine se_yX12_fine (by decide) (by decide) rfl (by decide) rfl rfl dX12_say_96 (by decide) (Nat.le_refl 0) (Nat.le_refl 0) (hl_r (by decide) (hl_i (hl_i (hl_i hl_nil)))) hs_nil ?_
        rintro _ _ _ ⟨rfl, rfl, rfl⟩ _
        show WA X (mS I A J) plM 0 0 99 [(0, .ref 0), (1, .int x1), (2, .int x2), (3, .int x3)] [.int (if (I 0 41) = 0 then 1 else 0)]
        refine a_ite (fun (c_20 : (I 0 41) = 0) => ?_) (fun (c_20 : ¬ ((I 0 41) = 0)) => ?_)
        · refine a_if_ne (tgt := 109) F dX12_say_99 (by decide) (fun (c_21 : ¬ (1 : Int32) = 0) => ?_) (fun (c_21 : (1 : Int32) = 0) => ?_)
          · refine a_aload_n F 0 dX12_say_109 rfl rfl ?_
            refine a_iload_n F 2 dX12_say_110 rfl rfl ?_
            refine a_iload_n F 3 dX12_say_111 rfl rfl ?_
            exact e_1 c_17 c_19
          · exact absurd c_21 (by decide)
        · exact absurd c_17 c_20
      · refine a_aload_n F 0 dX12_say_88 rfl rfl ?_
        exact e_2 c_17 c_19
  · refine a_if_eq (tgt := 95) F dX12_say_78 (by decide) (fun (c_22 : (0 : Int32) = 0) => ?_) (fun (c_22 : ¬ ((0 : Int32) = 0)) => ?_)
    · refine a_aload_n F 0 dX12_say_95 rfl rfl ?_
      refine a_callV (b := 0) (As := []) (st := []) (ci := 12) F (c_fine (xl X) I A J ) ml_12_310 im_yX12_fine se_yX12_fine (by decide) (by decide) rfl (by decide) rfl rfl dX12_say_96 (by decide) (Nat.le_refl 0) (Nat.le_refl 0) (hl_r (by decide) (hl_i (hl_i (hl_i hl_nil)))) hs_nil ?_
      rintro _ _ _ ⟨rfl, rfl, rfl⟩ _
      show WA X (mS I A J) plM 0 0 99 [(0, .ref 0), (1, .int x1), (2, .int x2), (3, .int x3)] [.int (if (I 0 41) = 0 then 1 else 0)]
      refine a_ite (fun (c_23 : (I 0 41) = 0) => ?_) (fun (c_23 : ¬ ((I 0 41) = 0)) => ?_)
      · exact absurd c_23 c_17
      · refine a_if_ne (tgt := 109) F dX12_say_99 (by decide) (fun (c_24 : ¬ (0 : Int32) = 0) => ?_) (fun (c_24 : (0 : Int32) = 0) => ?_)
        · exact absurd c_24 (by decide)
        · refine a_iconst (v := (-1)) F dX12_say_102 (by decide) ?_
          refine a_aload_n F 0 dX12_say_103 rfl rfl ?_
          refine a_geti F fl_12_307 rfl (by decide) rfl dX12_say_104 ?_
          refine a_isub F dX12_say_107 ?_
          exact a_iret F E dX12_say_108 (Nat.le_refl 0) (Nat.le_refl 0) (e_3 c_17)
    · exact absurd c_22 (by decide)

theorem r_12_say_92 {X : Ctx} (F : Fx X cX12_say RX12 7 7 0 0) {I A : Nat → Nat → Int32} {J : Nat → Nat → Int64} {x1 x2 x3 : Int32}
    (e_1 : WA X (mS I A J) plM 0 0 74 [(0, .ref 0), (1, .int x1), (2, .int x2), (3, .int x3)] []) :
    WA X (mS I A J) plM 0 0 92 [(0, .ref 0), (1, .int x1), (2, .int x2), (3, .int x3)] [] := by
  refine a_goto (tgt := 74) F dX12_say_92 (by decide) ?_
  exact e_1

theorem r_12_say_115 {X : Ctx} (F : Fx X cX12_say RX12 7 7 0 0) {I A : Nat → Nat → Int32} {J : Nat → Nat → Int64} {x1 x2 x3 : Int32}
    (e_1 : (¬ (I 0 47) = (I 0 11)) → WA X (mS I A J) plM 0 0 146 [(0, .ref 0), (1, .int x1), (2, .int x2), (3, .int x3)] [])
    (e_2 : ((I 0 47) = (I 0 11)) → WA X (mS I A J) plM 0 0 128 [(0, .ref 0), (1, .int x1), (2, .int x2), (3, .int x3)] [.int 0, .ref 0]) :
    WA X (mS I A J) plM 0 0 115 [(0, .ref 0), (1, .int x1), (2, .int x2), (3, .int x3)] [] := by
  refine a_aload_n F 0 dX12_say_115 rfl rfl ?_
  refine a_geti F fl_12_334 rfl (by decide) rfl dX12_say_116 ?_
  refine a_aload_n F 0 dX12_say_119 rfl rfl ?_
  refine a_geti F fl_12_185 rfl (by decide) rfl dX12_say_120 ?_
  refine a_icmp_ne (tgt := 146) F dX12_say_123 (by decide) (fun (c_25 : ¬ (I 0 47) = (I 0 11)) => ?_) (fun (c_25 : (I 0 47) = (I 0 11)) => ?_)
  · exact e_1 c_25
  · refine a_aload_n F 0 dX12_say_126 rfl rfl ?_
    refine a_iconst (v := 0) F dX12_say_127 (by decide) ?_
    exact e_2 c_25

theorem r_12_say_134 {X : Ctx} (F : Fx X cX12_say RX12 7 7 0 0) {I A : Nat → Nat → Int32} {J : Nat → Nat → Int64} {x1 x2 x3 : Int32}
    (e_1 : WA X (mS I A J) plM 0 0 136 [(0, .ref 0), (1, .int x1), (2, .int x2), (3, .int x3)] [.int 1, .ref 0]) :
    WA X (mS I A J) plM 0 0 134 [(0, .ref 0), (1, .int x1), (2, .int x2), (3, .int x3)] [] := by
  refine a_aload_n F 0 dX12_say_134 rfl rfl ?_
  refine a_iconst (v := 1) F dX12_say_135 (by decide) ?_
  exact e_1

theorem r_12_say_142 {X : Ctx} (F : Fx X cX12_say RX12 7 7 0 0) {I A : Nat → Nat → Int32} {J : Nat → Nat → Int64} {x1 x2 x3 : Int32}
    (e_1 : WA X (mS I A J) plM 0 0 155 [(0, .ref 0), (1, .int x1), (2, .int x2), (3, .int x3), (4, .int 1), (5, .int 1), (6, .int 0)] []) :
    WA X (mS I A J) plM 0 0 142 [(0, .ref 0), (1, .int x1), (2, .int x2), (3, .int x3)] [] := by
  refine a_iconst (v := 1) F dX12_say_142 (by decide) ?_
  refine a_goto (tgt := 147) F dX12_say_143 (by decide) ?_
  refine a_istore F dX12_say_147 (by decide) rfl ?_
  refine a_iconst (v := 1) F dX12_say_149 (by decide) ?_
  refine a_istore F dX12_say_150 (by decide) rfl ?_
  refine a_iconst (v := 0) F dX12_say_152 (by decide) ?_
  refine a_istore F dX12_say_153 (by decide) rfl ?_
  refine a_sub [3, 4, 5, 6, 2, 1, 0] rfl ?_
  exact e_1

theorem r_12_say_146 {X : Ctx} (F : Fx X cX12_say RX12 7 7 0 0) {I A : Nat → Nat → Int32} {J : Nat → Nat → Int64} {x1 x2 x3 : Int32}
    (e_1 : WA X (mS I A J) plM 0 0 155 [(0, .ref 0), (1, .int x1), (2, .int x2), (3, .int x3), (4, .int 0), (5, .int 1), (6, .int 0)] []) :
    WA X (mS I A J) plM 0 0 146 [(0, .ref 0), (1, .int x1), (2, .int x2), (3, .int x3)] [] := by
  refine a_iconst (v := 0) F dX12_say_146 (by decide) ?_
  refine a_istore F dX12_say_147 (by decide) rfl ?_
  refine a_iconst (v := 1) F dX12_say_149 (by decide) ?_
  refine a_istore F dX12_say_150 (by decide) rfl ?_
  refine a_iconst (v := 0) F dX12_say_152 (by decide) ?_
  refine a_istore F dX12_say_153 (by decide) rfl ?_
  refine a_sub [3, 4, 5, 6, 2, 1, 0] rfl ?_
  exact e_1

theorem r_12_say_155 {X : Ctx} (F : Fx X cX12_say RX12 7 7 0 0) {Φ : Option Value → HS → List Nat → Prop} (E : Ex X (some .int) 0 0 Φ) {I A : Nat → Nat → Int32} {J : Nat → Nat → Int64} {x1 x2 x3 x4 x5 x6 : Int32}
    (e_1 : ((I 0 47) ≤ x6) → (¬ x4 = 0) → (¬ x5 = 0) → ((I 0 41) = 0) → WA X (mS I A J) plM 0 0 247 [(0, .ref 0), (1, .int x1), (2, .int x2), (3, .int x3), (4, .int x4), (5, .int x5), (6, .int x6)] [.int (I 0 47), .ref 0])
    (e_2 : ((I 0 47) ≤ x6) → (¬ x4 = 0) → (¬ x5 = 0) → (¬ ((I 0 41) = 0)) → Φ (some (.int ((-1) - (I 0 41)))) (mS I A J) plM)
    (e_3 : ((I 0 47) ≤ x6) → (¬ x4 = 0) → (x5 = 0) → (((wrongI I (4 : Int32) (I 0 36)) 0 41) = 0) → WA X (mS (wrongI I (4 : Int32) (I 0 36)) A J) plM 0 0 247 [(0, .ref 0), (1, .int x1), (2, .int x2), (3, .int x3), (4, .int x4), (5, .int x5), (6, .int x6)] [.int ((wrongI I (4 : Int32) (I 0 36)) 0 47), .ref 0])
    (e_4 : ((I 0 47) ≤ x6) → (¬ x4 = 0) → (x5 = 0) → (¬ (((wrongI I (4 : Int32) (I 0 36)) 0 41) = 0)) → Φ (some (.int ((-1) - ((wrongI I (4 : Int32) (I 0 36)) 0 41)))) (mS (wrongI I (4 : Int32) (I 0 36)) A J) plM)
    (e_5 : ((I 0 47) ≤ x6) → (x4 = 0) → (((wrongI I (3 : Int32) (I 0 36)) 0 41) = 0) → WA X (mS (wrongI I (3 : Int32) (I 0 36)) A J) plM 0 0 247 [(0, .ref 0), (1, .int x1), (2, .int x2), (3, .int x3), (4, .int x4), (5, .int x5), (6, .int x6)] [.int ((wrongI I (3 : Int32) (I 0 36)) 0 47), .ref 0])
    (e_6 : ((I 0 47) ≤ x6) → (x4 = 0) → (¬ (((wrongI I (3 : Int32) (I 0 36)) 0 41) = 0)) → Φ (some (.int ((-1) - ((wrongI I (3 : Int32) (I 0 36)) 0 41)))) (mS (wrongI I (3 : Int32) (I 0 36)) A J) plM)
    (e_7 : (¬ ((I 0 47) ≤ x6)) → (x4 = 0) → (((wrongI I (3 : Int32) (I 0 36)) 0 41) = 0) → WA X (mS (wrongI I (3 : Int32) (I 0 36)) A J) plM 0 0 247 [(0, .ref 0), (1, .int x1), (2, .int x2), (3, .int x3), (4, .int x4), (5, .int x5), (6, .int x6)] [.int ((wrongI I (3 : Int32) (I 0 36)) 0 47), .ref 0])
    (e_8 : (¬ ((I 0 47) ≤ x6)) → (x4 = 0) → (¬ (((wrongI I (3 : Int32) (I 0 36)) 0 41) = 0)) → Φ (some (.int ((-1) - ((wrongI I (3 : Int32) (I 0 36)) 0 41)))) (mS (wrongI I (3 : Int32) (I 0 36)) A J) plM)
    (e_9 : (¬ ((I 0 47) ≤ x6)) → (¬ (x4 = 0)) → (x5 = 0) → WA X (mS I A J) plM 0 0 155 [(0, .ref 0), (1, .int x1), (2, .int x2), (3, .int x3), (4, .int x4), (5, .int 0), (6, .int (x6 + 1))] [])
    (o_10 : (¬ ((I 0 47) ≤ x6)) → (¬ (x4 = 0)) → (¬ (x5 = 0)) → vp_in x6 16)
    (o_11 : (¬ ((I 0 47) ≤ x6)) → (¬ (x4 = 0)) → (¬ (x5 = 0)) → vp_in x6 16)
    (e_12 : (¬ ((I 0 47) ≤ x6)) → (¬ (x4 = 0)) → (¬ (x5 = 0)) → (¬ (A 48 x6.toNatClampNeg) = (A 46 x6.toNatClampNeg)) → WA X (mS I A J) plM 0 0 155 [(0, .ref 0), (1, .int x1), (2, .int x2), (3, .int x3), (4, .int x4), (5, .int 0), (6, .int (x6 + 1))] [])
    (e_13 : (¬ ((I 0 47) ≤ x6)) → (¬ (x4 = 0)) → (¬ (x5 = 0)) → ((A 48 x6.toNatClampNeg) = (A 46 x6.toNatClampNeg)) → WA X (mS I A J) plM 0 0 155 [(0, .ref 0), (1, .int x1), (2, .int x2), (3, .int x3), (4, .int x4), (5, .int 1), (6, .int (x6 + 1))] []) :
    WA X (mS I A J) plM 0 0 155 [(0, .ref 0), (1, .int x1), (2, .int x2), (3, .int x3), (4, .int x4), (5, .int x5), (6, .int x6)] [] := by
  refine a_iload F 6 dX12_say_155 rfl ?_
  refine a_aload_n F 0 dX12_say_157 rfl rfl ?_
  refine a_geti F fl_12_334 rfl (by decide) rfl dX12_say_158 ?_
  refine a_icmp_ge (tgt := 204) F dX12_say_161 (by decide) (fun (c_26 : (I 0 47) ≤ x6) => ?_) (fun (c_26 : ¬ ((I 0 47) ≤ x6)) => ?_)
  · refine a_iload F 4 dX12_say_204 rfl ?_
    refine a_if_ne (tgt := 221) F dX12_say_206 (by decide) (fun (c_27 : ¬ x4 = 0) => ?_) (fun (c_27 : x4 = 0) => ?_)
    · refine a_iload F 5 dX12_say_221 rfl ?_
      refine a_if_ne (tgt := 235) F dX12_say_223 (by decide) (fun (c_28 : ¬ x5 = 0) => ?_) (fun (c_28 : x5 = 0) => ?_)
      · refine a_aload_n F 0 dX12_say_235 rfl rfl ?_
        refine a_callV (b := 0) (As := []) (st := []) (ci := 12) F (c_fine (xl X) I A J ) ml_12_310 im_yX12_fine se_yX12_fine (by decide) (by decide) rfl (by decide) rfl rfl dX12_say_236 (by decide) (Nat.le_refl 0) (Nat.le_refl 0) (hl_r (by decide) (hl_i (hl_i (hl_i (hl_i (hl_i (hl_i hl_nil))))))) hs_nil ?_
        rintro _ _ _ ⟨rfl, rfl, rfl⟩ _
        show WA X (mS I A J) plM 0 0 239 [(0, .ref 0), (1, .int x1), (2, .int x2), (3, .int x3), (4, .int x4), (5, .int x5), (6, .int x6)] [.int (if (I 0 41) = 0 then 1 else 0)]
        refine a_ite (fun (c_29 : (I 0 41) = 0) => ?_) (fun (c_29 : ¬ ((I 0 41) = 0)) => ?_)
        · refine a_if_eq (tgt := 253) F dX12_say_239 (by decide) (fun (c_30 : (1 : Int32) = 0) => ?_) (fun (c_30 : ¬ ((1 : Int32) = 0)) => ?_)
          · exact absurd c_30 (by decide)
          · refine a_aload_n F 0 dX12_say_242 rfl rfl ?_
            refine a_aload_n F 0 dX12_say_243 rfl rfl ?_
            refine a_geti F fl_12_334 rfl (by decide) rfl dX12_say_244 ?_
            exact e_1 c_26 c_27 c_28 c_29
        · refine a_if_eq (tgt := 253) F dX12_say_239 (by decide) (fun (c_31 : (0 : Int32) = 0) => ?_) (fun (c_31 : ¬ ((0 : Int32) = 0)) => ?_)
          · refine a_iconst (v := (-1)) F dX12_say_253 (by decide) ?_
            refine a_aload_n F 0 dX12_say_254 rfl rfl ?_
            refine a_geti F fl_12_307 rfl (by decide) rfl dX12_say_255 ?_
            refine a_isub F dX12_say_258 ?_
            exact a_iret F E dX12_say_259 (Nat.le_refl 0) (Nat.le_refl 0) (e_2 c_26 c_27 c_28 c_29)
          · exact absurd c_31 (by decide)
      · refine a_aload_n F 0 dX12_say_226 rfl rfl ?_
        refine a_iconst (v := 4) F dX12_say_227 (by decide) ?_
        refine a_aload_n F 0 dX12_say_228 rfl rfl ?_
        refine a_geti F fl_12_290 rfl (by decide) rfl dX12_say_229 ?_
        refine a_callV (b := 0) (As := [.int 4, .int (I 0 36)]) (st := []) (ci := 12) F (c_wrong (xl X) I A J 4 (I 0 36)) ml_12_319 im_yX12_wrong se_yX12_wrong (by decide) (by decide) rfl (by decide) rfl rfl dX12_say_232 (by decide) (Nat.le_refl 0) (Nat.le_refl 0) (hl_r (by decide) (hl_i (hl_i (hl_i (hl_i (hl_i (hl_i hl_nil))))))) hs_nil ?_
        rintro _ _ _ ⟨rfl, rfl, rfl⟩ _
        show WA X (mS (wrongI I (4 : Int32) (I 0 36)) A J) plM 0 0 235 [(0, .ref 0), (1, .int x1), (2, .int x2), (3, .int x3), (4, .int x4), (5, .int x5), (6, .int x6)] []
        refine a_aload_n F 0 dX12_say_235 rfl rfl ?_
        refine a_callV (b := 0) (As := []) (st := []) (ci := 12) F (c_fine (xl X) (wrongI I (4 : Int32) (I 0 36)) A J ) ml_12_310 im_yX12_fine se_yX12_fine (by decide) (by decide) rfl (by decide) rfl rfl dX12_say_236 (by decide) (Nat.le_refl 0) (Nat.le_refl 0) (hl_r (by decide) (hl_i (hl_i (hl_i (hl_i (hl_i (hl_i hl_nil))))))) hs_nil ?_
        rintro _ _ _ ⟨rfl, rfl, rfl⟩ _
        show WA X (mS (wrongI I (4 : Int32) (I 0 36)) A J) plM 0 0 239 [(0, .ref 0), (1, .int x1), (2, .int x2), (3, .int x3), (4, .int x4), (5, .int x5), (6, .int x6)] [.int (if ((wrongI I (4 : Int32) (I 0 36)) 0 41) = 0 then 1 else 0)]
        refine a_ite (fun (c_32 : ((wrongI I (4 : Int32) (I 0 36)) 0 41) = 0) => ?_) (fun (c_32 : ¬ (((wrongI I (4 : Int32) (I 0 36)) 0 41) = 0)) => ?_)
        · refine a_if_eq (tgt := 253) F dX12_say_239 (by decide) (fun (c_33 : (1 : Int32) = 0) => ?_) (fun (c_33 : ¬ ((1 : Int32) = 0)) => ?_)
          · exact absurd c_33 (by decide)
          · refine a_aload_n F 0 dX12_say_242 rfl rfl ?_
            refine a_aload_n F 0 dX12_say_243 rfl rfl ?_
            refine a_geti F fl_12_334 rfl (by decide) rfl dX12_say_244 ?_
            exact e_3 c_26 c_27 c_28 c_32
        · refine a_if_eq (tgt := 253) F dX12_say_239 (by decide) (fun (c_34 : (0 : Int32) = 0) => ?_) (fun (c_34 : ¬ ((0 : Int32) = 0)) => ?_)
          · refine a_iconst (v := (-1)) F dX12_say_253 (by decide) ?_
            refine a_aload_n F 0 dX12_say_254 rfl rfl ?_
            refine a_geti F fl_12_307 rfl (by decide) rfl dX12_say_255 ?_
            refine a_isub F dX12_say_258 ?_
            exact a_iret F E dX12_say_259 (Nat.le_refl 0) (Nat.le_refl 0) (e_4 c_26 c_27 c_28 c_32)
          · exact absurd c_34 (by decide)
    · refine a_aload_n F 0 dX12_say_209 rfl rfl ?_
      refine a_iconst (v := 3) F dX12_say_210 (by decide) ?_
      refine a_aload_n F 0 dX12_say_211 rfl rfl ?_
      refine a_geti F fl_12_290 rfl (by decide) rfl dX12_say_212 ?_
      refine a_callV (b := 0) (As := [.int 3, .int (I 0 36)]) (st := []) (ci := 12) F (c_wrong (xl X) I A J 3 (I 0 36)) ml_12_319 im_yX12_wrong se_yX12_wrong (by decide) (by decide) rfl (by decide) rfl rfl dX12_say_215 (by decide) (Nat.le_refl 0) (Nat.le_refl 0) (hl_r (by decide) (hl_i (hl_i (hl_i (hl_i (hl_i (hl_i hl_nil))))))) hs_nil ?_
      rintro _ _ _ ⟨rfl, rfl, rfl⟩ _
      show WA X (mS (wrongI I (3 : Int32) (I 0 36)) A J) plM 0 0 218 [(0, .ref 0), (1, .int x1), (2, .int x2), (3, .int x3), (4, .int x4), (5, .int x5), (6, .int x6)] []
      refine a_goto (tgt := 235) F dX12_say_218 (by decide) ?_
      refine a_aload_n F 0 dX12_say_235 rfl rfl ?_
      refine a_callV (b := 0) (As := []) (st := []) (ci := 12) F (c_fine (xl X) (wrongI I (3 : Int32) (I 0 36)) A J ) ml_12_310 im_yX12_fine se_yX12_fine (by decide) (by decide) rfl (by decide) rfl rfl dX12_say_236 (by decide) (Nat.le_refl 0) (Nat.le_refl 0) (hl_r (by decide) (hl_i (hl_i (hl_i (hl_i (hl_i (hl_i hl_nil))))))) hs_nil ?_
      rintro _ _ _ ⟨rfl, rfl, rfl⟩ _
      show WA X (mS (wrongI I (3 : Int32) (I 0 36)) A J) plM 0 0 239 [(0, .ref 0), (1, .int x1), (2, .int x2), (3, .int x3), (4, .int x4), (5, .int x5), (6, .int x6)] [.int (if ((wrongI I (3 : Int32) (I 0 36)) 0 41) = 0 then 1 else 0)]
      refine a_ite (fun (c_35 : ((wrongI I (3 : Int32) (I 0 36)) 0 41) = 0) => ?_) (fun (c_35 : ¬ (((wrongI I (3 : Int32) (I 0 36)) 0 41) = 0)) => ?_)
      · refine a_if_eq (tgt := 253) F dX12_say_239 (by decide) (fun (c_36 : (1 : Int32) = 0) => ?_) (fun (c_36 : ¬ ((1 : Int32) = 0)) => ?_)
        · exact absurd c_36 (by decide)
        · refine a_aload_n F 0 dX12_say_242 rfl rfl ?_
          refine a_aload_n F 0 dX12_say_243 rfl rfl ?_
          refine a_geti F fl_12_334 rfl (by decide) rfl dX12_say_244 ?_
          exact e_5 c_26 c_27 c_35
      · refine a_if_eq (tgt := 253) F dX12_say_239 (by decide) (fun (c_37 : (0 : Int32) = 0) => ?_) (fun (c_37 : ¬ ((0 : Int32) = 0)) => ?_)
        · refine a_iconst (v := (-1)) F dX12_say_253 (by decide) ?_
          refine a_aload_n F 0 dX12_say_254 rfl rfl ?_
          refine a_geti F fl_12_307 rfl (by decide) rfl dX12_say_255 ?_
          refine a_isub F dX12_say_258 ?_
          exact a_iret F E dX12_say_259 (Nat.le_refl 0) (Nat.le_refl 0) (e_6 c_26 c_27 c_35)
        · exact absurd c_37 (by decide)
  · refine a_iload F 4 dX12_say_164 rfl ?_
    refine a_if_eq (tgt := 204) F dX12_say_166 (by decide) (fun (c_38 : x4 = 0) => ?_) (fun (c_38 : ¬ (x4 = 0)) => ?_)
    · refine a_iload F 4 dX12_say_204 rfl ?_
      refine a_if_ne (tgt := 221) F dX12_say_206 (by decide) (fun (c_39 : ¬ x4 = 0) => ?_) (fun (c_39 : x4 = 0) => ?_)
      · exact absurd c_38 c_39
      · refine a_aload_n F 0 dX12_say_209 rfl rfl ?_
        refine a_iconst (v := 3) F dX12_say_210 (by decide) ?_
        refine a_aload_n F 0 dX12_say_211 rfl rfl ?_
        refine a_geti F fl_12_290 rfl (by decide) rfl dX12_say_212 ?_
        refine a_callV (b := 0) (As := [.int 3, .int (I 0 36)]) (st := []) (ci := 12) F (c_wrong (xl X) I A J 3 (I 0 36)) ml_12_319 im_yX12_wrong se_yX12_wrong (by decide) (by decide) rfl (by decide) rfl rfl dX12_say_215 (by decide) (Nat.le_refl 0) (Nat.le_refl 0) (hl_r (by decide) (hl_i (hl_i (hl_i (hl_i (hl_i (hl_i hl_nil))))))) hs_nil ?_
        rintro _ _ _ ⟨rfl, rfl, rfl⟩ _
        show WA X (mS (wrongI I (3 : Int32) (I 0 36)) A J) plM 0 0 218 [(0, .ref 0), (1, .int x1), (2, .int x2), (3, .int x3), (4, .int x4), (5, .int x5), (6, .int x6)] []
        refine a_goto (tgt := 235) F dX12_say_218 (by decide) ?_
        refine a_aload_n F 0 dX12_say_235 rfl rfl ?_
        refine a_callV (b := 0) (As := []) (st := []) (ci := 12) F (c_fine (xl X) (wrongI I (3 : Int32) (I 0 36)) A J ) ml_12_310 im_yX12_fine se_yX12_fine (by decide) (by decide) rfl (by decide) rfl rfl dX12_say_236 (by decide) (Nat.le_refl 0) (Nat.le_refl 0) (hl_r (by decide) (hl_i (hl_i (hl_i (hl_i (hl_i (hl_i hl_nil))))))) hs_nil ?_
        rintro _ _ _ ⟨rfl, rfl, rfl⟩ _
        show WA X (mS (wrongI I (3 : Int32) (I 0 36)) A J) plM 0 0 239 [(0, .ref 0), (1, .int x1), (2, .int x2), (3, .int x3), (4, .int x4), (5, .int x5), (6, .int x6)] [.int (if ((wrongI I (3 : Int32) (I 0 36)) 0 41) = 0 then 1 else 0)]
        refine a_ite (fun (c_40 : ((wrongI I (3 : Int32) (I 0 36)) 0 41) = 0) => ?_) (fun (c_40 : ¬ (((wrongI I (3 : Int32) (I 0 36)) 0 41) = 0)) => ?_)
        · refine a_if_eq (tgt := 253) F dX12_say_239 (by decide) (fun (c_41 : (1 : Int32) = 0) => ?_) (fun (c_41 : ¬ ((1 : Int32) = 0)) => ?_)
          · exact absurd c_41 (by decide)
          · refine a_aload_n F 0 dX12_say_242 rfl rfl ?_
            refine a_aload_n F 0 dX12_say_243 rfl rfl ?_
            refine a_geti F fl_12_334 rfl (by decide) rfl dX12_say_244 ?_
            exact e_7 c_26 c_38 c_40
        · refine a_if_eq (tgt := 253) F dX12_say_239 (by decide) (fun (c_42 : (0 : Int32) = 0) => ?_) (fun (c_42 : ¬ ((0 : Int32) = 0)) => ?_)
          · refine a_iconst (v := (-1)) F dX12_say_253 (by decide) ?_
            refine a_aload_n F 0 dX12_say_254 rfl rfl ?_
            refine a_geti F fl_12_307 rfl (by decide) rfl dX12_say_255 ?_
            refine a_isub F dX12_say_258 ?_
            exact a_iret F E dX12_say_259 (Nat.le_refl 0) (Nat.le_refl 0) (e_8 c_26 c_38 c_40)
          · exact absurd c_42 (by decide)
    · refine a_iload F 5 dX12_say_169 rfl ?_
      refine a_if_eq (tgt := 195) F dX12_say_171 (by decide) (fun (c_43 : x5 = 0) => ?_) (fun (c_43 : ¬ (x5 = 0)) => ?_)
      · refine a_iconst (v := 0) F dX12_say_195 (by decide) ?_
        refine a_istore F dX12_say_196 (by decide) rfl ?_
        refine a_iinc (v := x6 + 1) F 6 dX12_say_198 rfl rfl (by decide) rfl ?_
        refine a_goto (tgt := 155) F dX12_say_201 (by decide) ?_
        refine a_sub [2, 3, 4, 5, 6, 1, 0] rfl ?_
        exact e_9 c_26 c_38 c_43
      · refine a_aload_n F 0 dX12_say_174 rfl rfl ?_
        refine a_getr (b := 48) F fl_12_76 rfl (by decide) rfl rfl dX12_say_175 ?_
        refine a_iload F 6 dX12_say_178 rfl ?_
        refine a_zald F (by decide) rfl (o_10 c_26 c_38 c_43) dX12_say_180 ?_
        refine a_aload_n F 0 dX12_say_181 rfl rfl ?_
        refine a_getr (b := 46) F fl_12_72 rfl (by decide) rfl rfl dX12_say_182 ?_
        refine a_iload F 6 dX12_say_185 rfl ?_
        refine a_zald F (by decide) rfl (o_11 c_26 c_38 c_43) dX12_say_187 ?_
        refine a_icmp_ne (tgt := 195) F dX12_say_188 (by decide) (fun (c_44 : ¬ (A 48 x6.toNatClampNeg) = (A 46 x6.toNatClampNeg)) => ?_) (fun (c_44 : (A 48 x6.toNatClampNeg) = (A 46 x6.toNatClampNeg)) => ?_)
        · refine a_iconst (v := 0) F dX12_say_195 (by decide) ?_
          refine a_istore F dX12_say_196 (by decide) rfl ?_
          refine a_iinc (v := x6 + 1) F 6 dX12_say_198 rfl rfl (by decide) rfl ?_
          refine a_goto (tgt := 155) F dX12_say_201 (by decide) ?_
          refine a_sub [2, 3, 4, 5, 6, 1, 0] rfl ?_
          exact e_12 c_26 c_38 c_43 c_44
        · refine a_iconst (v := 1) F dX12_say_191 (by decide) ?_
          refine a_goto (tgt := 196) F dX12_say_192 (by decide) ?_
          refine a_istore F dX12_say_196 (by decide) rfl ?_
          refine a_iinc (v := x6 + 1) F 6 dX12_say_198 rfl rfl (by decide) rfl ?_
          refine a_goto (tgt := 155) F dX12_say_201 (by decide) ?_
          refine a_sub [2, 3, 4, 5, 6, 1, 0] rfl ?_
          exact e_13 c_26 c_38 c_43 c_44

set_option maxRecDepth 10000 in
theorem c_say (l : Launch) (I A : Nat → Nat → Int32) (J : Nat → Nat → Int64) (n0 a b : Int32) (m t : Nat) (B0 : Nat → Nat) (ht : t ≤ 400) (h35 : I 0 35 = nI t) (hm : m ≤ 1) (h2 : I 0 2 = nI m) (hok : okB B0) (hB : bdR (A 1) 0 B0) : Con l 7 yX12_say cX12_say 7 (some .int) [.ref 0, .int n0, .int a, .int b] (mS I A J) plM 0 0 (fun r σ' pl' => (¬ ((0 ≤ n0 ∧ n0 ≤ I 0 35) ∧ diceP a b) → PM (some (.int 0)) (up2 I 0 0 1) A J r σ' pl') ∧ ((0 ≤ n0 ∧ n0 ≤ I 0 35) ∧ diceP a b → ¬ mayP I a b → PM (some (.int 0)) (up2 I 0 0 2) A J r σ' pl') ∧ ((0 ≤ n0 ∧ n0 ≤ I 0 35) ∧ diceP a b → mayP I a b → sayR (up2 (begI I A n0) 0 47 0) A J m (min a.toNatClampNeg b.toNatClampNeg) (max a.toNatClampNeg b.toNatClampNeg) n0.toNatClampNeg B0 (movesF (A 34) n0.toNatClampNeg 9 mv0 (endT bBl (A 34) n0.toNatClampNeg 0)) r σ' pl')) := by
  refine Con.of (by decide) (Nat.le_of_ble_eq_true rfl) (fun X hX9 hn9 F E => ?_)
  refine r_12_say_0 F E (fun c => ?_) (fun c1 c2 => ?_) (fun c1 c2 c3 c4 c5 => ?_) (fun c1 c2 c3 c4 c5 => ?_) (fun c1 c2 c3 c4 c5 => ?_) (fun c1 c2 c3 c4 => ?_) (fun c1 c2 c3 => ?_)
  · rw [up2_up2]; exact ⟨fun _ => ⟨rfl, rfl, rfl⟩, fun z => absurd z.1.1 (Int32.not_le.mpr c), fun z => absurd z.1.1 (Int32.not_le.mpr c)⟩
  · rw [up2_up2]; exact ⟨fun _ => ⟨rfl, rfl, rfl⟩, fun z => absurd z.1.2 (Int32.not_le.mpr c2), fun z => absurd z.1.2 (Int32.not_le.mpr c2)⟩
  · have h400 : nI t ≤ 400 := (nI_len 400 (by omega) (by omega)).mpr ht
    rw [h35] at c2
    exact ⟨Int32.not_lt.mp c1, Int32.le_trans (Int32.not_lt.mp c2) h400⟩
  rotate_left
  · rw [up2_up2]; exact ⟨fun z => absurd ⟨⟨Int32.not_lt.mp c1, Int32.not_lt.mp c2⟩, c3, c4⟩ z, fun _ _ => ⟨rfl, rfl, rfl⟩, fun _ z => absurd z c5⟩
  · rw [up2_up2]; exact ⟨fun _ => ⟨rfl, rfl, rfl⟩, fun z => absurd z.2.2 c4, fun z => absurd z.2.2 c4⟩
  · rw [up2_up2]; exact ⟨fun _ => ⟨rfl, rfl, rfl⟩, fun z => absurd z.2.1 c3, fun z => absurd z.2.1 c3⟩
  have h400 : nI t ≤ 400 := (nI_len 400 (by omega) (by omega)).mpr ht
  have hn0 : n0 ≤ nI t := by rw [← h35]; exact Int32.not_lt.mp c2
  obtain ⟨n, hn4, rfl⟩ := nI_of2 (x := n0) (M := 400) (n := 400) rfl c1 (Int32.le_trans hn0 h400)
  obtain ⟨a', ha1, rfl⟩ := nI_of2 (x := a) (M := 6) (n := 6) rfl (by grind) c3.2
  obtain ⟨b', hb1, rfl⟩ := nI_of2 (x := b) (M := 6) (n := 6) rfl (by grind) c4.2
  have ha2 := (nI_gen 1 (by omega) (by omega)).mp c3.1
  have hb2 := (nI_gen 1 (by omega) (by omega)).mp c4.1
  have toQ : ∀ r σ' pl', sayR (up2 (begI I A (nI n)) 0 47 0) A J m (min a' b') (max a' b') n B0 (movesF (A 34) n 9 mv0 (endT bBl (A 34) n 0)) r σ' pl' → (fun r σ' pl' => (¬ ((0 ≤ nI n ∧ nI n ≤ I 0 35) ∧ diceP (nI a') (nI b')) → PM (some (.int 0)) (up2 I 0 0 1) A J r σ' pl') ∧ ((0 ≤ nI n ∧ nI n ≤ I 0 35) ∧ diceP (nI a') (nI b') → ¬ mayP I (nI a') (nI b') → PM (some (.int 0)) (up2 I 0 0 2) A J r σ' pl') ∧ ((0 ≤ nI n ∧ nI n ≤ I 0 35) ∧ diceP (nI a') (nI b') → mayP I (nI a') (nI b') → sayR (up2 (begI I A (nI n)) 0 47 0) A J m (min (nI a').toNatClampNeg (nI b').toNatClampNeg) (max (nI a').toNatClampNeg (nI b').toNatClampNeg) (nI n).toNatClampNeg B0 (movesF (A 34) (nI n).toNatClampNeg 9 mv0 (endT bBl (A 34) (nI n).toNatClampNeg 0)) r σ' pl')) r σ' pl' := by
    intro r σ' pl' h
    refine ⟨fun z => absurd ⟨⟨Int32.not_lt.mp c1, Int32.not_lt.mp c2⟩, c3, c4⟩ z, fun _ z => absurd c5 z, fun _ _ => ?_⟩
    rw [nI_clamp (by omega), nI_clamp (by omega), nI_clamp (by omega)]; exact h
  have E2 := E.imp toQ
  clear toQ E
  show WA X (mS (up2 (begI I A (nI n)) 0 47 0) A J) plM 0 0 71 [(0, .ref 0), (1, .int (nI n)), (2, .int (nI a')), (3, .int (nI b'))] [.ref 0]
  have bAt : AtP (begI I A (nI n)) (A 34) n (endT bBl (A 34) n 0) := by
    unfold begI gonI
    have e36 : up2 (up2 (up2 (up2 (up2 (up2 I 0 0 0) 0 36 (nI n)) 0 35 0) 0 37 0) 0 41 0) 0 42 (-1) 0 36 = nI n := rfl
    have e37 : up2 (up2 (up2 (up2 (up2 (up2 I 0 0 0) 0 36 (nI n)) 0 35 0) 0 37 0) 0 41 0) 0 42 (-1) 0 37 = 0 := rfl
    rw [e36, e37, nI_clamp (show n < 2 ^ 31 by omega), show (0 : Int32).toNatClampNeg = 0 from rfl]
    exact ⟨hn4, (endT_b n 0 (by omega) (by omega)).2, rfl, rfl, rfl, rfl, rfl⟩
  have hx : 1 ≤ min a' b' ∧ min a' b' ≤ 6 := by omega
  have hy : 1 ≤ max a' b' ∧ max a' b' ≤ 6 := by omega
  have k41 : up2 (begI I A (nI n)) 0 47 0 0 41 = 0 := by rw [up2_k (by decide)]; unfold begI; rw [gon_k (by decide)]; rfl
  have k42 : up2 (begI I A (nI n)) 0 47 0 0 42 = -1 := by rw [up2_k (by decide)]; unfold begI; rw [gon_k (by decide)]; rfl
  have k2 : up2 (begI I A (nI n)) 0 47 0 0 2 = nI m := by rw [up2_k (by decide)]; unfold begI; rw [gon_k (by decide)]; exact h2
  have kAt : AtP (up2 (begI I A (nI n)) 0 47 0) (A 34) n (endT bBl (A 34) n 0) := bAt
  have k47 : up2 (begI I A (nI n)) 0 47 0 0 47 = nI mv0.1 := up2_s
  clear bAt
  generalize up2 (begI I A (nI n)) 0 47 0 = I0 at E2 k41 k42 k2 kAt k47 ⊢
  generalize endT bBl (A 34) n 0 = p0 at E2 kAt
  -- the moves are told: the plays
  have fin : ∀ (mv : MV) (p : Nat) (I1 A1 : Nat → Nat → Int32), movesF (A 34) n 9 mv0 p0 = .ok mv → FrM I0 I1 → (∀ q, q ≠ 44 → q ≠ 45 → q ≠ 46 → A1 q = A q) → I1 0 41 = 0 → I1 0 42 = -1 → AtP I1 (A 34) n p → I1 0 47 = nI mv.1 → mvRow A1 mv → WA X (mS I1 A1 J) plM 0 0 112 [(0, .ref 0), (1, .int (nI n)), (2, .int (nI a')), (3, .int (nI b'))] [.int (nI b'), .int (nI a'), .ref 0] := by
    intro mv p I1 A1 hmF f1 f2 g41 g42 gAt g47 gmv
    rw [hmF] at E2
    refine a_callV (b := 0) (As := [.int (nI a'), .int (nI b')]) (st := []) (ci := 12) F (c_findResults (xl X) I1 A1 J a' b' m B0 ⟨ha2, ha1⟩ ⟨hb2, hb1⟩ hm (by rw [f1 2 (by decide) (by decide)]; exact k2) hok (by rw [f2 1 (by decide) (by decide) (by decide)]; exact hB)) ml_12_243 im_yX12_findResults se_yX12_findResults (by decide) (by decide) rfl (by decide) rfl rfl dX12_say_112 (by decide) (Nat.le_refl 0) (Nat.le_refl 0) (hl_r (by decide) (hl_i (hl_i (hl_i hl_nil)))) hs_nil ?_
    rintro _ _ _ ⟨I2, A2, len, g, rfl, rfl, rfl, q1, q2, ⟨e8, e9, e10, e11, e12, hb3, hp⟩, e17, cnt, o, T, W, e16, hR, hT⟩ _
    show WA X (mS I2 A2 J) plM 0 0 115 [(0, .ref 0), (1, .int (nI n)), (2, .int (nI a')), (3, .int (nI b'))] []
    generalize min a' b' = x at *
    generalize max a' b' = y at *
    have hg : g ≤ 6 := by rcases hp.2.2.2 with z | z <;> omega
    have hlen := hp.1
    have h8m := gmv.1
    have j41 : I2 0 41 = 0 := by rw [q1 41 (by decide) (by decide) (by decide) (by decide) (by decide) (by decide) (by decide)]; exact g41
    have j42 : I2 0 42 = -1 := by rw [q1 42 (by decide) (by decide) (by decide) (by decide) (by decide) (by decide) (by decide)]; exact g42
    have j36 : I2 0 36 = nI n := by rw [q1 36 (by decide) (by decide) (by decide) (by decide) (by decide) (by decide) (by decide)]; exact gAt.2.2.1
    have j47 : I2 0 47 = nI mv.1 := by rw [q1 47 (by decide) (by decide) (by decide) (by decide) (by decide) (by decide) (by decide)]; exact g47
    have jmv : mvRow A2 mv := ⟨gmv.1, by rw [q2 44 (by decide) (by decide) (by decide) (by decide) (by decide) (by decide) (by decide) (by decide), q2 45 (by decide) (by decide) (by decide) (by decide) (by decide) (by decide) (by decide) (by decide), q2 46 (by decide) (by decide) (by decide) (by decide) (by decide) (by decide) (by decide) (by decide)]; exact gmv.2⟩
    have fI : frY I0 I2 := fun k hk h47 => by rw [q1 k (by omega) (by omega) (by omega) (by omega) (by omega) (by omega) (by omega)]; exact f1 k (by omega) h47
    have fA : ∀ A3 : Nat → Nat → Int32, (∀ q, q ≠ 3 → q ≠ 48 → A3 q = A2 q) → ∀ q, q ≠ 3 → q ≠ 4 → q ≠ 5 → q ≠ 6 → q ≠ 7 → q ≠ 13 → q ≠ 14 → q ≠ 15 → q ≠ 44 → q ≠ 45 → q ≠ 46 → q ≠ 48 → A3 q = A q := fun A3 h3 q a1 a2 a3 a4 a5 a6 a7 a8 a9 a10 a11 a12 => by rw [h3 q a1 a12, q2 q a1 a2 a3 a4 a5 a6 a7 a8]; exact f2 q a9 a10 a11
    have tR : ∀ A3 : Nat → Nat → Int32, (∀ q, q ≠ 3 → q ≠ 48 → A3 q = A2 q) → tabR (A3 13) (A3 14) (A3 15) len cnt o T W := fun A3 h3 => by rw [h3 13 (by decide) (by decide), h3 14 (by decide) (by decide), h3 15 (by decide) (by decide)]; exact hR
    have wf : ∀ f : Int32, wrongI I2 f (I2 0 36) = up2 (up2 I2 0 41 f) 0 42 (nI n) := fun f => by unfold wrongI; rw [if_pos j41, j36]
    have w41 : ∀ f : Int32, up2 (up2 I2 0 41 f) 0 42 (nI n) 0 41 = f := fun f => by rw [up2_k (by decide), up2_s]
    have wfr : ∀ f : Int32, frY I0 (up2 (up2 I2 0 41 f) 0 42 (nI n)) := fun f k hk h47 => by rw [up2_k (by omega), up2_k (by omega)]; exact fI k hk h47
    have w17 : ∀ f : Int32, up2 (up2 I2 0 41 f) 0 42 (nI n) 0 17 = nI len := fun f => by rw [up2_k (by decide), up2_k (by decide)]; exact e17
    have w16 : ∀ f : Int32, up2 (up2 I2 0 41 f) 0 42 (nI n) 0 16 = nI cnt := fun f => by rw [up2_k (by decide), up2_k (by decide)]; exact e16
    -- no play
    have cant : ∀ A3 : Nat → Nat → Int32, (∀ q, q ≠ 3 → q ≠ 48 → A3 q = A2 q) → ¬ (mv.1 = len ∧ (allS m x y g 0 mv B0 ∨ allS m x y g 1 mv B0)) → WA X (mS I2 A3 J) plM 0 0 146 [(0, .ref 0), (1, .int (nI n)), (2, .int (nI a')), (3, .int (nI b'))] [] := by
      intro A3 h3 hno
      refine r_12_say_146 F ?_
      have res : sayR I0 A J m x y n B0 (.ok mv) (some (.int (-1 - up2 (up2 I2 0 41 3) 0 42 (nI n) 0 41))) (mS (up2 (up2 I2 0 41 3) 0 42 (nI n)) A3 J) plM := ⟨rfl, _, A3, rfl, wfr 3, fA A3 h3, len, g, cnt, o, T, W, hp, w17 3, w16 3, tR A3 h3, hT, Or.inl ⟨hno, by rw [w41]; rfl, up2_s⟩⟩
      have z3 : ¬ up2 (up2 I2 0 41 3) 0 42 (nI n) 0 41 = 0 := by rw [w41]; decide
      refine r_12_say_155 F E2 (fun _ h => absurd rfl h) (fun _ h => absurd rfl h) (fun _ h => absurd rfl h) (fun _ h => absurd rfl h) (fun _ _ => ?_) (fun _ _ => ?_) (fun _ _ => ?_) (fun _ _ => ?_) (fun _ h => absurd rfl h) (fun _ h => absurd rfl h) (fun _ h => absurd rfl h) (fun _ h => absurd rfl h) (fun _ h => absurd rfl h)
      · rw [wf]; exact fun h => absurd h z3
      · rw [wf]; exact fun _ => res
      · rw [wf]; exact fun h => absurd h z3
      · rw [wf]; exact fun _ => res
    -- a play: its stars
    have can : ∀ (first : Nat) (A3 : Nat → Nat → Int32), first ≤ 1 → (∀ q, q ≠ 3 → q ≠ 48 → A3 q = A2 q) → mv.1 = len → allS m x y g first mv B0 → okB (sbd m x y first mv.2.1 B0 mv.1) → bdR (A3 3) (52 * mv.1) (sbd m x y first mv.2.1 B0 mv.1) → (∀ k, k < mv.1 → (A3 48 k = 0 ∨ A3 48 k = 1) ∧ (A3 48 k = 1 ↔ hitP (sbd m x y first mv.2.1 B0 k) m (mv.2.1 k) (dieS x y first k))) → WA X (mS I2 A3 J) plM 0 0 142 [(0, .ref 0), (1, .int (nI n)), (2, .int (nI a')), (3, .int (nI b'))] [] := by
      intro first A3 hf h3 hl hall hkB hbB hh
      refine r_12_say_142 F ?_
      have eqs : ∀ k, k < mv.1 → (A3 48 k = A3 46 k ↔ (hitP (sbd m x y first mv.2.1 B0 k) m (mv.2.1 k) (dieS x y first k) ↔ mv.2.2.2 k = true)) := fun k hk => by
        obtain ⟨p1, p2⟩ := hh k hk
        have p3 := (jmv.2 k hk).2.2.2.2
        rw [h3 46 (by decide) (by decide), p3, ← p2]
        cases hb : mv.2.2.2 k
        · rcases p1 with z | z <;> rw [z] <;> simp
        · rcases p1 with z | z <;> rw [z] <;> simp
      have i1 : I2 0 41 = 0 := j41
      have loop : ∀ f k (x5 : Int32), k + f = mv.1 → (x5 = 0 ∨ x5 = 1) → (x5 = 1 ↔ ∀ j, j < k → A3 48 j = A3 46 j) → WA X (mS I2 A3 J) plM 0 0 155 [(0, .ref 0), (1, .int (nI n)), (2, .int (nI a')), (3, .int (nI b')), (4, .int 1), (5, .int x5), (6, .int (nI k))] [] := by
        intro f
        induction f with
        | zero =>
          intro k x5 hk h5 hx5
          obtain rfl : k = mv.1 := by omega
          have hle : I2 0 47 ≤ nI mv.1 := by rw [j47]; exact (nI_leI (by omega) (by omega)).mpr (Nat.le_refl _)
          have gd : x5 = 1 ↔ goodS m x y first mv B0 := by rw [hx5]; exact ⟨fun z j hj => (eqs j hj).mp (z j hj), fun z j hj => (eqs j hj).mpr (z j hj)⟩
          refine r_12_say_155 F E2 (fun _ _ c5 _ => ?_) (fun _ _ _ h => absurd j41 h) (fun _ _ c5 => ?_) (fun _ _ c5 => ?_) (fun _ h => absurd h (by decide)) (fun _ h => absurd h (by decide)) (fun h => absurd hle h) (fun h => absurd hle h) (fun h => absurd hle h) (fun h => absurd hle h) (fun h => absurd hle h) (fun h => absurd hle h) (fun h => absurd hle h)
          · have hgood := gd.mp (h5.resolve_left c5)
            rw [j47]
            refine a_callV (b := 0) (As := [.int (nI mv.1)]) (st := []) (ci := 12) F (c_find (xl X) I2 A3 J mv.1 m cnt o T (sbd m x y first mv.2.1 B0 mv.1) (by omega) hm e8 e16 hR.1 (by rw [h3 15 (by decide) (by decide)]; exact hR.2.1) (fun i hi => ⟨?_, by rw [h3 13 (by decide) (by decide)]; exact hR.2.2.2.1 i hi⟩) hT.2.2 (fun k hk => okB_le hkB hk) hbB) ml_12_217 im_yX12_find se_yX12_find (by decide) (by decide) rfl (by decide) rfl rfl dX12_say_247 (by decide) (Nat.le_refl 0) (Nat.le_refl 0) (hl_r (by decide) (hl_i (hl_i (hl_i (hl_i (hl_i (hl_i hl_nil))))))) hs_nil ?_
            · obtain ⟨L, hr⟩ := hT.1 i hi
              have hL0 : L0F x y ≤ 4 := by unfold L0F; split <;> omega
              have := (Rch_ok hm hx hy _ _ _ _ _ _ _ _ hr (by omega) hok ⟨by decide, Nat.zero_mod _⟩).2.1
              exact fun k hk => okB_le this hk
            · rintro _ _ _ ⟨k, ⟨rfl, rfl, rfl⟩, hk1, hk2, hk3⟩ _
              refine a_goto (tgt := 259) F dX12_say_250 (by decide) ?_
              exact a_iret F E2 dX12_say_259 (Nat.le_refl 0) (Nat.le_refl 0) ⟨rfl, I2, A3, rfl, fI, fA A3 h3, len, g, cnt, o, T, W, hp, e17, e16, tR A3 h3, hT, Or.inr ⟨first, hf, hl, hall, Or.inr ⟨hgood, j42, k, rfl, hk1, hk2, hk3⟩⟩⟩
          · rw [wf, w41]; exact fun h => absurd h (by decide)
          · have hng : ¬ goodS m x y first mv B0 := fun z => by rw [gd.mpr z] at c5; exact absurd c5 (by decide)
            rw [wf]
            exact fun _ => ⟨rfl, _, A3, rfl, wfr 4, fA A3 h3, len, g, cnt, o, T, W, hp, w17 4, w16 4, tR A3 h3, hT, Or.inr ⟨first, hf, hl, hall, Or.inl ⟨hng, by rw [w41]; rfl, up2_s⟩⟩⟩
        | succ f ih =>
          intro k x5 hk h5 hx5
          have hle : ¬ I2 0 47 ≤ nI k := by rw [j47, nI_leI (by omega) (by omega)]; omega
          have v16 : vp_in (nI k) 16 := vp_in_nI (by omega) (by omega)
          have ck : (nI k).toNatClampNeg = k := nI_clamp (by omega)
          have nx : ∀ x5' : Int32, (x5' = 0 ∨ x5' = 1) → (x5' = 1 ↔ x5 = 1 ∧ A3 48 k = A3 46 k) → WA X (mS I2 A3 J) plM 0 0 155 [(0, .ref 0), (1, .int (nI n)), (2, .int (nI a')), (3, .int (nI b')), (4, .int 1), (5, .int x5'), (6, .int (nI k + 1))] [] := by
            intro x5' h5' hx5'
            rw [nI_1]
            refine ih (k + 1) x5' (by omega) h5' ?_
            rw [hx5', hx5]
            constructor
            · rintro ⟨z1, z2⟩ j hj
              rcases Nat.lt_or_ge j k with z | z
              · exact z1 j z
              · obtain rfl : j = k := by omega
                exact z2
            · exact fun z => ⟨fun j hj => z j (by omega), z k (by omega)⟩
          refine r_12_say_155 F E2 (fun h => absurd h hle) (fun h => absurd h hle) (fun h => absurd h hle) (fun h => absurd h hle) (fun h => absurd h hle) (fun h => absurd h hle) (fun _ h => absurd h (by decide)) (fun _ h => absurd h (by decide)) (fun _ _ c => nx 0 (Or.inl rfl) ⟨fun z => absurd z (by decide), fun z => by rw [z.1] at c; exact absurd c (by decide)⟩) (fun _ _ _ => v16) (fun _ _ _ => v16) (fun _ _ c => ?_) (fun _ _ c => ?_)
          · rw [ck]; exact fun c2 => nx 0 (Or.inl rfl) ⟨fun z => absurd z (by decide), fun z => absurd z.2 c2⟩
          · rw [ck]; exact fun c2 => nx 1 (Or.inr rfl) ⟨fun _ => ⟨h5.resolve_left c, c2⟩, fun _ => rfl⟩
      exact loop mv.1 0 1 (by omega) (Or.inr rfl) ⟨fun _ j hj => by omega, fun _ => rfl⟩
    have el : I2 0 47 = I2 0 11 ↔ mv.1 = len := by rw [j47, e11]; exact nI_eq (by omega) (by omega)
    refine r_12_say_115 F (fun c => cant A2 (fun _ _ _ => rfl) (fun z => c (el.mpr z.1))) (fun c => ?_)
    have hl := el.mp c
    refine a_callV (b := 0) (As := [.int 0]) (st := []) (ci := 12) F (c_canSay (xl X) I2 A2 J m x y g 0 mv B0 (by omega) hm e8 e9 e10 e12 j47 hx hy hg jmv hok hb3) ml_12_340 im_yX12_canSay se_yX12_canSay (by decide) (by decide) rfl (by decide) rfl rfl dX12_say_128 (by decide) (Nat.le_refl 0) (Nat.le_refl 0) (hl_r (by decide) (hl_i (hl_i (hl_i hl_nil)))) hs_nil ?_
    rintro _ _ _ ⟨A3, rfl, rfl, t1, t2, t3⟩ _
    rcases t3 with ⟨a1, rfl, a2, a3, a4⟩ | ⟨a1, rfl⟩
    · refine a_if_ne (tgt := 142) F dX12_say_131 (by decide) (fun _ => ?_) (fun h => absurd h (by decide))
      exact can 0 A3 (by omega) t1 hl a1 a2 a3 a4
    · refine a_if_ne (tgt := 142) F dX12_say_131 (by decide) (fun h => absurd rfl h) (fun _ => ?_)
      refine r_12_say_134 F ?_
      have mvr3 : mvRow A3 mv := ⟨gmv.1, by rw [t1 44 (by decide) (by decide), t1 45 (by decide) (by decide), t1 46 (by decide) (by decide)]; exact jmv.2⟩
      have hb33 : bdR (A3 3) 0 B0 := fun k hk => by rw [Nat.zero_add, t2 k hk]; have := hb3 k hk; rw [Nat.zero_add] at this; exact this
      refine a_callV (b := 0) (As := [.int 1]) (st := []) (ci := 12) F (c_canSay (xl X) I2 A3 J m x y g 1 mv B0 (by omega) hm e8 e9 e10 e12 j47 hx hy hg mvr3 hok hb33) ml_12_340 im_yX12_canSay se_yX12_canSay (by decide) (by decide) rfl (by decide) rfl rfl dX12_say_136 (by decide) (Nat.le_refl 0) (Nat.le_refl 0) (hl_r (by decide) (hl_i (hl_i (hl_i hl_nil)))) hs_nil ?_
      rintro _ _ _ ⟨A4, rfl, rfl, u1, u2, u3⟩ _
      have u1' : ∀ q, q ≠ 3 → q ≠ 48 → A4 q = A2 q := fun q z1 z2 => (u1 q z1 z2).trans (t1 q z1 z2)
      rcases u3 with ⟨b1, rfl, b2, b3, b4⟩ | ⟨b1, rfl⟩
      · refine a_if_eq (tgt := 146) F dX12_say_139 (by decide) (fun h => absurd h (by decide)) (fun _ => ?_)
        exact can 1 A4 (by omega) u1' hl b1 b2 b3 b4
      · refine a_if_eq (tgt := 146) F dX12_say_139 (by decide) (fun _ => ?_) (fun h => absurd rfl h)
        exact cant A4 u1' (fun z => z.2.elim a1 b1)
  -- the texts
  have loop : ∀ f (mv : MV) (p : Nat) (I1 A1 : Nat → Nat → Int32), 9 ≤ mv.1 + f → movesF (A 34) n 9 mv0 p0 = movesF (A 34) n f mv p → FrM I0 I1 → (∀ q, q ≠ 44 → q ≠ 45 → q ≠ 46 → A1 q = A q) → I1 0 41 = 0 → I1 0 42 = -1 → AtP I1 (A 34) n p → I1 0 47 = nI mv.1 → mvRow A1 mv → WA X (mS I1 A1 J) plM 0 0 71 [(0, .ref 0), (1, .int (nI n)), (2, .int (nI a')), (3, .int (nI b'))] [.ref 0] ∧ WA X (mS I1 A1 J) plM 0 0 89 [(0, .ref 0), (1, .int (nI n)), (2, .int (nI a')), (3, .int (nI b'))] [.ref 0] := by
    intro f
    induction f with
    | zero => intro mv p I1 A1 h9 _ _ _ _ _ _ _ hmv; have := hmv.1; omega
    | succ f ih =>
      intro mv p I1 A1 h9 hmF f1 f2 g41 g42 gAt g47 gmv
      have h34 : A1 34 = A 34 := f2 34 (by decide) (by decide) (by decide)
      have C := c_sayMove (xl X) I1 A1 J n p mv g41 (by rw [h34]; exact gAt) g47 gmv
      rw [h34] at C
      have aft : ∀ r σ' pl', sayQ I1 A1 J n (moveF (A 34) n mv p) r σ' pl' → WA X σ' pl' 0 0 74 [(0, .ref 0), (1, .int (nI n)), (2, .int (nI a')), (3, .int (nI b'))] [] := by
        rintro r σ' pl' ⟨rfl, rfl, I2, A2, rfl, q1, q2, q3⟩
        have f1' := f1.tr q1
        have f2' : ∀ q, q ≠ 44 → q ≠ 45 → q ≠ 46 → A2 q = A q := fun q z1 z2 z3 => (q2 q z1 z2 z3).trans (f2 q z1 z2 z3)
        rw [show movesF (A 34) n (f + 1) mv p = (match moveF (A 34) n mv p with | .error e => .error e | .ok r => if tkS (A 34) n r.1 = 0 then .ok r.2 else movesF (A 34) n f r.2 r.1) from rfl] at hmF
        cases hm1 : moveF (A 34) n mv p with
        | error fp =>
          rw [hm1] at q3 hmF
          obtain ⟨s1, s2, s3, s4, s5⟩ := q3
          have z : ¬ I2 0 41 = 0 := by rw [s4]; exact nI_ne0 (by omega) (by omega)
          refine r_12_say_74 F E2 (fun h => absurd h z) (fun h => absurd h z) (fun _ => ?_)
          rw [hmF]
          exact ⟨rfl, I2, A2, rfl, s1, s2, s3, by rw [s4], f1', s5, f2'⟩
        | ok r1 =>
          rw [hm1] at q3 hmF
          obtain ⟨s1, s2, s3, s4, s5⟩ := q3
          have hmore := move_more hm1
          have s3' : AtP I2 (A 34) n r1.1 := by rw [h34] at s3; exact s3
          have e38 := s3'.2.2.2.2.1
          refine r_12_say_74 F E2 (fun _ c => ?_) (fun _ c => ?_) (fun h => absurd s1 h)
          · rw [e38] at c
            have hmF' : movesF (A 34) n 9 mv0 p0 = .ok r1.2 := by rw [hmF]; simp only [c, if_true]
            exact fin r1.2 r1.1 I2 A2 hmF' f1' f2' s1 (by rw [s2]; exact g42) s3' s4 s5
          · rw [e38] at c
            have hmF' : movesF (A 34) n 9 mv0 p0 = movesF (A 34) n f r1.2 r1.1 := by rw [hmF]; simp only [c, if_false]
            exact (ih r1.2 r1.1 I2 A2 (by omega) hmF' f1' f2' s1 (by rw [s2]; exact g42) s3' s4 s5).2
      constructor
      · refine a_callV (b := 0) (As := []) (st := []) (ci := 12) F C ml_12_337 im_yX12_sayMove se_yX12_sayMove (by decide) (by decide) rfl (by decide) rfl rfl dX12_say_71 (by decide) (Nat.le_refl 0) (Nat.le_refl 0) (hl_r (by decide) (hl_i (hl_i (hl_i hl_nil)))) hs_nil ?_
        intro r σ' pl' hq _
        have := aft r σ' pl' hq
        obtain ⟨rfl, -⟩ := hq
        exact this
      · refine a_callV (b := 0) (As := []) (st := []) (ci := 12) F C ml_12_337 im_yX12_sayMove se_yX12_sayMove (by decide) (by decide) rfl (by decide) rfl rfl dX12_say_89 (by decide) (Nat.le_refl 0) (Nat.le_refl 0) (hl_r (by decide) (hl_i (hl_i (hl_i hl_nil)))) hs_nil ?_
        intro r σ' pl' hq _
        have := aft r σ' pl' hq
        obtain ⟨rfl, rfl, I2, A2, rfl, -⟩ := hq
        exact r_12_say_92 F this
  exact (loop 9 mv0 p0 I0 A (by show 9 ≤ 0 + 9; omega) rfl (fun _ _ _ => rfl) (fun _ _ _ _ => rfl) k41 k42 kAt k47 ⟨by show 0 ≤ 8; omega, fun k hk => absurd hk (Nat.not_lt_zero k)⟩).1
