/-! Board.setUp: the two static rows -/
theorem sl_32 : Cond.fieldLink RX0 32 RX0 "START_POINTS" "[I" ∈ lwG := tm2 (List.mem_of_getElem? (i := 103) (by decide +kernel)) (by decide +kernel)
theorem sl_35 : Cond.fieldLink RX0 35 RX0 "START_MEN" "[I" ∈ lwG := tm2 (List.mem_of_getElem? (i := 105) (by decide +kernel)) (by decide +kernel)
section
variable {X : Ctx} {cc : ByteArray} {nL d mc ms : Nat} {σ : HS} {pl : List Nat} {k1 k2 pc : Nat} {ls : List (Nat × Value)} {st : List Value}
theorem a_stL (F : Fx X cc RX0 nL d mc ms) (S : SX X) (hd0 : decode cc pc = .ok (.getstatic 32, 3)) (hd3 : decode cc (pc + 3) = .ok (.arraylength, 1)) (kk : WA X σ pl k1 k2 (pc + 4) ls (.int 4 :: st)) : WA X σ pl k1 k2 pc ls st := by
  intro ad H locs la hP hD hS hq hl
  obtain ⟨t, hZ, hT⟩ := S.2.2.1
  refine va_gets (v := .ref t) F.x F.b hZ hS F.o (F.t _ sl_32) (fun _ h => h) hd0 ?_
  exact va_tlen F.x F.b hT hS (v := 4) rfl hd3 (kk ad H locs la hP hD hS hq hl)
theorem a_stP (F : Fx X cc RX0 nL d mc ms) (S : SX X) (j : Nat) {i : Fin 4} {x : Int32} (hj : ls[j]? = some ((i : Nat), .int x)) (hin : vp_in x 4) (hd0 : decode cc pc = .ok (.getstatic 32, 3)) (hd3 : decode cc (pc + 3) = .ok (.iload_n i, 1)) (hd4 : decode cc (pc + 4) = .ok (.iaload, 1)) (kk : WA X σ pl k1 k2 (pc + 5) ls (.int (stPt x.toNatClampNeg) :: st)) : WA X σ pl k1 k2 pc ls st := by
  intro ad H locs la hP hD hS hq hl
  obtain ⟨t, hZ, hT⟩ := S.2.2.1
  refine va_gets (v := .ref t) F.x F.b hZ hS F.o (F.t _ sl_32) (fun _ h => h) hd0 ?_
  refine lv_iload_n F.x F.b hd3 rfl (lsT_at hl j hj) ?_
  exact va_ti F.x F.b hT hS hin rfl hd4 (kk ad H locs la hP hD hS hq hl)
theorem a_stM (F : Fx X cc RX0 nL d mc ms) (S : SX X) (j : Nat) {i : Fin 4} {x : Int32} (hj : ls[j]? = some ((i : Nat), .int x)) (hin : vp_in x 4) (hd0 : decode cc pc = .ok (.getstatic 35, 3)) (hd3 : decode cc (pc + 3) = .ok (.iload_n i, 1)) (hd4 : decode cc (pc + 4) = .ok (.iaload, 1)) (kk : WA X σ pl k1 k2 (pc + 5) ls (.int (stMn x.toNatClampNeg) :: st)) : WA X σ pl k1 k2 pc ls st := by
  intro ad H locs la hP hD hS hq hl
  obtain ⟨t, hZ, hT⟩ := S.2.2.2.1
  refine va_gets (v := .ref t) F.x F.b hZ hS F.o (F.t _ sl_35) (fun _ h => h) hd0 ?_
  refine lv_iload_n F.x F.b hd3 rfl (lsT_at hl j hj) ?_
  exact va_ti F.x F.b hT hS hin rfl hd4 (kk ad H locs la hP hD hS hq hl)
end
def tkF9 (R : Nat → Int32) (a b v : Int32) : Nat → Int32 := upd (upd R (a * 26 + 0).toNatClampNeg (R (a * 26 + 0).toNatClampNeg - v)) (a * 26 + b).toNatClampNeg (upd R (a * 26 + 0).toNatClampNeg (R (a * 26 + 0).toNatClampNeg - v) (a * 26 + b).toNatClampNeg + v)
theorem tk_cg {R R' : Nat → Int32} {a b v : Int32} (h1 : (a * 26 + 0).toNatClampNeg < 52) (h2 : (a * 26 + b).toNatClampNeg < 52) (h : ∀ k, k < 52 → R k = R' k) : ∀ k, k < 52 → tkF9 R a b v k = tkF9 R' a b v k := fun k hk => by
  unfold tkF9 upd
  rw [h _ h1, h _ h2, h k hk]
def clr0 : Nat → Int32 := fun k => if k = 0 then 15 else if k = 26 then 15 else 0
theorem clr_0 (r : Nat → Int32) : ∀ k, k < 52 → clrR r k = clr0 k := fun k hk => by
  unfold clrR clr0 upd fillF
  by_cases c : k = 26
  · subst c; rfl
  · by_cases c2 : k = 0
    · subst c2; rfl
    · rw [if_neg c, if_neg c2, if_pos hk, if_neg c2, if_neg c]
theorem st_row (r : Nat → Int32) : ∀ k, k < 52 → (tkF9 (tkF9 (tkF9 (tkF9 (tkF9 (tkF9 (tkF9 (tkF9 (clrR r) 0 24 2) 1 24 2) 0 13 5) 1 13 5) 0 8 3) 1 8 3) 0 6 5) 1 6 5) k = startB k := by
  have h0 := clr_0 r
  have h1 := tk_cg (a := 0) (b := 24) (v := 2) (by decide) (by decide) h0
  have h2 := tk_cg (a := 1) (b := 24) (v := 2) (by decide) (by decide) h1
  have h3 := tk_cg (a := 0) (b := 13) (v := 5) (by decide) (by decide) h2
  have h4 := tk_cg (a := 1) (b := 13) (v := 5) (by decide) (by decide) h3
  have h5 := tk_cg (a := 0) (b := 8) (v := 3) (by decide) (by decide) h4
  have h6 := tk_cg (a := 1) (b := 8) (v := 3) (by decide) (by decide) h5
  have h7 := tk_cg (a := 0) (b := 6) (v := 5) (by decide) (by decide) h6
  have h8 := tk_cg (a := 1) (b := 6) (v := 5) (by decide) (by decide) h7
  intro k hk
  rw [h8 k hk]
  revert k
  decide +kernel
set_option maxRecDepth 10000 in
theorem c_0_setUp (l : Launch) {P O : Nat → Nat → Option Nat} (hP : laP P) (I A : Nat → Nat → Int32) (J : Nat → Nat → Int64) {pl : List Nat} (hB : inB pl) (p : Nat) (hk_p : kC p = 0) (hp_p : p ∈ pl) (hq_p : p + 1 ∈ pl) : ConS l 4 yX0_setUp cX0_setUp 2 none [.ref p] (mC P O I A J) pl 0 0 (fun r σ' pl' => r = none ∧ pl = pl' ∧ ∃ R, σ' = mC P O (up2 I p 1 0) (up1 A (p + 1) R) J ∧ ∀ k, k < 52 → R k = startB k) := by
  refine ConS.of (by decide) (Nat.le_of_ble_eq_true rfl) (fun X hX9 hn9 F E S => ?_)
  refine a_aload_n F 0 dX0_setUp_0 rfl rfl ?_
  refine a_callV (b := p) (As := []) (st := []) (ci := 0) F (c_0_clear (xl X) hP I A J hB p hk_p hp_p hq_p) ml_0_29 im_yX0_clear se_yX0_clear (by decide) (by decide) rfl hp_p hk_p rfl dX0_setUp_1 (by decide) (Nat.le_refl 0) (Nat.le_refl 0) (hl_r hp_p hl_nil) hs_nil ?_
  rintro _ _ _ ⟨rfl, rfl, rfl⟩ _
  refine a_iconst (v := 0) F dX0_setUp_4 (by decide) ?_
  refine a_istore_n F dX0_setUp_5 rfl (by decide) rfl ?_
  refine a_iload_n F 0 dX0_setUp_6 rfl rfl ?_
  refine a_stL F S dX0_setUp_7 dX0_setUp_10 ?_
  refine a_icmp_ge (tgt := 50) F dX0_setUp_11 (by decide) (fun c => absurd c (by decide)) (fun _ => ?_)
  refine a_aload_n F 1 dX0_setUp_14 rfl rfl ?_
  refine a_iconst (v := 0) F dX0_setUp_15 (by decide) ?_
  refine a_stP F S 0 rfl (vp_in_nI (n := 0) (by decide) (by decide)) dX0_setUp_16 dX0_setUp_19 dX0_setUp_20 ?_
  refine a_stM F S 0 rfl (vp_in_nI (n := 0) (by decide) (by decide)) dX0_setUp_21 dX0_setUp_24 dX0_setUp_25 ?_
  show WA X (mC P O (up2 I p 1 0) (up1 A (p + 1) (clrR (A (p + 1)))) J) pl 0 0 26 [(1, .int 0), (0, .ref p)] [.int 2, .int 24, .int 0, .ref p]
  refine a_callV (b := p) (As := [.int 0, .int 24, .int 2]) (st := []) (ci := 0) F (c_0_takeFromOff (xl X) hP (up2 I p 1 0) (up1 A (p + 1) (clrR (A (p + 1)))) J hB p hk_p hp_p hq_p 0 24 2 (vp_in_nI (n := 0) (by decide) (by decide)) (vp_in_nI (n := 24) (by decide) (by decide))) ml_0_38 im_yX0_takeFromOff se_yX0_takeFromOff (by decide) (by decide) rfl hp_p hk_p rfl dX0_setUp_26 (by decide) (Nat.le_refl 0) (Nat.le_refl 0) (hl_i (hl_r hp_p hl_nil)) hs_nil ?_
  rintro _ _ _ ⟨rfl, rfl, rfl⟩ _
  rw [up1_up1, up1_s]
  show WA X (mC P O (up2 I p 1 0) (up1 A (p + 1) (tkF9 (clrR (A (p + 1))) 0 24 2)) J) pl 0 0 29 [(1, .int 0), (0, .ref p)] []
  refine a_aload_n F 1 dX0_setUp_29 rfl rfl ?_
  refine a_iconst (v := 1) F dX0_setUp_30 (by decide) ?_
  refine a_stP F S 0 rfl (vp_in_nI (n := 0) (by decide) (by decide)) dX0_setUp_31 dX0_setUp_34 dX0_setUp_35 ?_
  refine a_stM F S 0 rfl (vp_in_nI (n := 0) (by decide) (by decide)) dX0_setUp_36 dX0_setUp_39 dX0_setUp_40 ?_
  show WA X (mC P O (up2 I p 1 0) (up1 A (p + 1) (tkF9 (clrR (A (p + 1))) 0 24 2)) J) pl 0 0 41 [(1, .int 0), (0, .ref p)] [.int 2, .int 24, .int 1, .ref p]
  refine a_callV (b := p) (As := [.int 1, .int 24, .int 2]) (st := []) (ci := 0) F (c_0_takeFromOff (xl X) hP (up2 I p 1 0) (up1 A (p + 1) (tkF9 (clrR (A (p + 1))) 0 24 2)) J hB p hk_p hp_p hq_p 1 24 2 (vp_in_nI (n := 26) (by decide) (by decide)) (vp_in_nI (n := 50) (by decide) (by decide))) ml_0_38 im_yX0_takeFromOff se_yX0_takeFromOff (by decide) (by decide) rfl hp_p hk_p rfl dX0_setUp_41 (by decide) (Nat.le_refl 0) (Nat.le_refl 0) (hl_i (hl_r hp_p hl_nil)) hs_nil ?_
  rintro _ _ _ ⟨rfl, rfl, rfl⟩ _
  rw [up1_up1, up1_s]
  show WA X (mC P O (up2 I p 1 0) (up1 A (p + 1) (tkF9 (tkF9 (clrR (A (p + 1))) 0 24 2) 1 24 2)) J) pl 0 0 44 [(1, .int 0), (0, .ref p)] []
  refine a_iinc (v := 1) F 0 dX0_setUp_44 rfl (by decide) (by decide) rfl ?_
  refine a_goto (tgt := 6) F dX0_setUp_47 (by decide) ?_
  refine a_sub [0, 1] rfl ?_
  refine a_iload_n F 0 dX0_setUp_6 rfl rfl ?_
  refine a_stL F S dX0_setUp_7 dX0_setUp_10 ?_
  refine a_icmp_ge (tgt := 50) F dX0_setUp_11 (by decide) (fun c => absurd c (by decide)) (fun _ => ?_)
  refine a_aload_n F 1 dX0_setUp_14 rfl rfl ?_
  refine a_iconst (v := 0) F dX0_setUp_15 (by decide) ?_
  refine a_stP F S 0 rfl (vp_in_nI (n := 1) (by decide) (by decide)) dX0_setUp_16 dX0_setUp_19 dX0_setUp_20 ?_
  refine a_stM F S 0 rfl (vp_in_nI (n := 1) (by decide) (by decide)) dX0_setUp_21 dX0_setUp_24 dX0_setUp_25 ?_
  show WA X (mC P O (up2 I p 1 0) (up1 A (p + 1) (tkF9 (tkF9 (clrR (A (p + 1))) 0 24 2) 1 24 2)) J) pl 0 0 26 [(1, .int 1), (0, .ref p)] [.int 5, .int 13, .int 0, .ref p]
  refine a_callV (b := p) (As := [.int 0, .int 13, .int 5]) (st := []) (ci := 0) F (c_0_takeFromOff (xl X) hP (up2 I p 1 0) (up1 A (p + 1) (tkF9 (tkF9 (clrR (A (p + 1))) 0 24 2) 1 24 2)) J hB p hk_p hp_p hq_p 0 13 5 (vp_in_nI (n := 0) (by decide) (by decide)) (vp_in_nI (n := 13) (by decide) (by decide))) ml_0_38 im_yX0_takeFromOff se_yX0_takeFromOff (by decide) (by decide) rfl hp_p hk_p rfl dX0_setUp_26 (by decide) (Nat.le_refl 0) (Nat.le_refl 0) (hl_i (hl_r hp_p hl_nil)) hs_nil ?_
  rintro _ _ _ ⟨rfl, rfl, rfl⟩ _
  rw [up1_up1, up1_s]
  show WA X (mC P O (up2 I p 1 0) (up1 A (p + 1) (tkF9 (tkF9 (tkF9 (clrR (A (p + 1))) 0 24 2) 1 24 2) 0 13 5)) J) pl 0 0 29 [(1, .int 1), (0, .ref p)] []
  refine a_aload_n F 1 dX0_setUp_29 rfl rfl ?_
  refine a_iconst (v := 1) F dX0_setUp_30 (by decide) ?_
  refine a_stP F S 0 rfl (vp_in_nI (n := 1) (by decide) (by decide)) dX0_setUp_31 dX0_setUp_34 dX0_setUp_35 ?_
  refine a_stM F S 0 rfl (vp_in_nI (n := 1) (by decide) (by decide)) dX0_setUp_36 dX0_setUp_39 dX0_setUp_40 ?_
  show WA X (mC P O (up2 I p 1 0) (up1 A (p + 1) (tkF9 (tkF9 (tkF9 (clrR (A (p + 1))) 0 24 2) 1 24 2) 0 13 5)) J) pl 0 0 41 [(1, .int 1), (0, .ref p)] [.int 5, .int 13, .int 1, .ref p]
  refine a_callV (b := p) (As := [.int 1, .int 13, .int 5]) (st := []) (ci := 0) F (c_0_takeFromOff (xl X) hP (up2 I p 1 0) (up1 A (p + 1) (tkF9 (tkF9 (tkF9 (clrR (A (p + 1))) 0 24 2) 1 24 2) 0 13 5)) J hB p hk_p hp_p hq_p 1 13 5 (vp_in_nI (n := 26) (by decide) (by decide)) (vp_in_nI (n := 39) (by decide) (by decide))) ml_0_38 im_yX0_takeFromOff se_yX0_takeFromOff (by decide) (by decide) rfl hp_p hk_p rfl dX0_setUp_41 (by decide) (Nat.le_refl 0) (Nat.le_refl 0) (hl_i (hl_r hp_p hl_nil)) hs_nil ?_
  rintro _ _ _ ⟨rfl, rfl, rfl⟩ _
  rw [up1_up1, up1_s]
  show WA X (mC P O (up2 I p 1 0) (up1 A (p + 1) (tkF9 (tkF9 (tkF9 (tkF9 (clrR (A (p + 1))) 0 24 2) 1 24 2) 0 13 5) 1 13 5)) J) pl 0 0 44 [(1, .int 1), (0, .ref p)] []
  refine a_iinc (v := 2) F 0 dX0_setUp_44 rfl (by decide) (by decide) rfl ?_
  refine a_goto (tgt := 6) F dX0_setUp_47 (by decide) ?_
  refine a_sub [0, 1] rfl ?_
  refine a_iload_n F 0 dX0_setUp_6 rfl rfl ?_
  refine a_stL F S dX0_setUp_7 dX0_setUp_10 ?_
  refine a_icmp_ge (tgt := 50) F dX0_setUp_11 (by decide) (fun c => absurd c (by decide)) (fun _ => ?_)
  refine a_aload_n F 1 dX0_setUp_14 rfl rfl ?_
  refine a_iconst (v := 0) F dX0_setUp_15 (by decide) ?_
  refine a_stP F S 0 rfl (vp_in_nI (n := 2) (by decide) (by decide)) dX0_setUp_16 dX0_setUp_19 dX0_setUp_20 ?_
  refine a_stM F S 0 rfl (vp_in_nI (n := 2) (by decide) (by decide)) dX0_setUp_21 dX0_setUp_24 dX0_setUp_25 ?_
  show WA X (mC P O (up2 I p 1 0) (up1 A (p + 1) (tkF9 (tkF9 (tkF9 (tkF9 (clrR (A (p + 1))) 0 24 2) 1 24 2) 0 13 5) 1 13 5)) J) pl 0 0 26 [(1, .int 2), (0, .ref p)] [.int 3, .int 8, .int 0, .ref p]
  refine a_callV (b := p) (As := [.int 0, .int 8, .int 3]) (st := []) (ci := 0) F (c_0_takeFromOff (xl X) hP (up2 I p 1 0) (up1 A (p + 1) (tkF9 (tkF9 (tkF9 (tkF9 (clrR (A (p + 1))) 0 24 2) 1 24 2) 0 13 5) 1 13 5)) J hB p hk_p hp_p hq_p 0 8 3 (vp_in_nI (n := 0) (by decide) (by decide)) (vp_in_nI (n := 8) (by decide) (by decide))) ml_0_38 im_yX0_takeFromOff se_yX0_takeFromOff (by decide) (by decide) rfl hp_p hk_p rfl dX0_setUp_26 (by decide) (Nat.le_refl 0) (Nat.le_refl 0) (hl_i (hl_r hp_p hl_nil)) hs_nil ?_
  rintro _ _ _ ⟨rfl, rfl, rfl⟩ _
  rw [up1_up1, up1_s]
  show WA X (mC P O (up2 I p 1 0) (up1 A (p + 1) (tkF9 (tkF9 (tkF9 (tkF9 (tkF9 (clrR (A (p + 1))) 0 24 2) 1 24 2) 0 13 5) 1 13 5) 0 8 3)) J) pl 0 0 29 [(1, .int 2), (0, .ref p)] []
  refine a_aload_n F 1 dX0_setUp_29 rfl rfl ?_
  refine a_iconst (v := 1) F dX0_setUp_30 (by decide) ?_
  refine a_stP F S 0 rfl (vp_in_nI (n := 2) (by decide) (by decide)) dX0_setUp_31 dX0_setUp_34 dX0_setUp_35 ?_
  refine a_stM F S 0 rfl (vp_in_nI (n := 2) (by decide) (by decide)) dX0_setUp_36 dX0_setUp_39 dX0_setUp_40 ?_
  show WA X (mC P O (up2 I p 1 0) (up1 A (p + 1) (tkF9 (tkF9 (tkF9 (tkF9 (tkF9 (clrR (A (p + 1))) 0 24 2) 1 24 2) 0 13 5) 1 13 5) 0 8 3)) J) pl 0 0 41 [(1, .int 2), (0, .ref p)] [.int 3, .int 8, .int 1, .ref p]
  refine a_callV (b := p) (As := [.int 1, .int 8, .int 3]) (st := []) (ci := 0) F (c_0_takeFromOff (xl X) hP (up2 I p 1 0) (up1 A (p + 1) (tkF9 (tkF9 (tkF9 (tkF9 (tkF9 (clrR (A (p + 1))) 0 24 2) 1 24 2) 0 13 5) 1 13 5) 0 8 3)) J hB p hk_p hp_p hq_p 1 8 3 (vp_in_nI (n := 26) (by decide) (by decide)) (vp_in_nI (n := 34) (by decide) (by decide))) ml_0_38 im_yX0_takeFromOff se_yX0_takeFromOff (by decide) (by decide) rfl hp_p hk_p rfl dX0_setUp_41 (by decide) (Nat.le_refl 0) (Nat.le_refl 0) (hl_i (hl_r hp_p hl_nil)) hs_nil ?_
  rintro _ _ _ ⟨rfl, rfl, rfl⟩ _
  rw [up1_up1, up1_s]
  show WA X (mC P O (up2 I p 1 0) (up1 A (p + 1) (tkF9 (tkF9 (tkF9 (tkF9 (tkF9 (tkF9 (clrR (A (p + 1))) 0 24 2) 1 24 2) 0 13 5) 1 13 5) 0 8 3) 1 8 3)) J) pl 0 0 44 [(1, .int 2), (0, .ref p)] []
  refine a_iinc (v := 3) F 0 dX0_setUp_44 rfl (by decide) (by decide) rfl ?_
  refine a_goto (tgt := 6) F dX0_setUp_47 (by decide) ?_
  refine a_sub [0, 1] rfl ?_
  refine a_iload_n F 0 dX0_setUp_6 rfl rfl ?_
  refine a_stL F S dX0_setUp_7 dX0_setUp_10 ?_
  refine a_icmp_ge (tgt := 50) F dX0_setUp_11 (by decide) (fun c => absurd c (by decide)) (fun _ => ?_)
  refine a_aload_n F 1 dX0_setUp_14 rfl rfl ?_
  refine a_iconst (v := 0) F dX0_setUp_15 (by decide) ?_
  refine a_stP F S 0 rfl (vp_in_nI (n := 3) (by decide) (by decide)) dX0_setUp_16 dX0_setUp_19 dX0_setUp_20 ?_
  refine a_stM F S 0 rfl (vp_in_nI (n := 3) (by decide) (by decide)) dX0_setUp_21 dX0_setUp_24 dX0_setUp_25 ?_
  show WA X (mC P O (up2 I p 1 0) (up1 A (p + 1) (tkF9 (tkF9 (tkF9 (tkF9 (tkF9 (tkF9 (clrR (A (p + 1))) 0 24 2) 1 24 2) 0 13 5) 1 13 5) 0 8 3) 1 8 3)) J) pl 0 0 26 [(1, .int 3), (0, .ref p)] [.int 5, .int 6, .int 0, .ref p]
  refine a_callV (b := p) (As := [.int 0, .int 6, .int 5]) (st := []) (ci := 0) F (c_0_takeFromOff (xl X) hP (up2 I p 1 0) (up1 A (p + 1) (tkF9 (tkF9 (tkF9 (tkF9 (tkF9 (tkF9 (clrR (A (p + 1))) 0 24 2) 1 24 2) 0 13 5) 1 13 5) 0 8 3) 1 8 3)) J hB p hk_p hp_p hq_p 0 6 5 (vp_in_nI (n := 0) (by decide) (by decide)) (vp_in_nI (n := 6) (by decide) (by decide))) ml_0_38 im_yX0_takeFromOff se_yX0_takeFromOff (by decide) (by decide) rfl hp_p hk_p rfl dX0_setUp_26 (by decide) (Nat.le_refl 0) (Nat.le_refl 0) (hl_i (hl_r hp_p hl_nil)) hs_nil ?_
  rintro _ _ _ ⟨rfl, rfl, rfl⟩ _
  rw [up1_up1, up1_s]
  show WA X (mC P O (up2 I p 1 0) (up1 A (p + 1) (tkF9 (tkF9 (tkF9 (tkF9 (tkF9 (tkF9 (tkF9 (clrR (A (p + 1))) 0 24 2) 1 24 2) 0 13 5) 1 13 5) 0 8 3) 1 8 3) 0 6 5)) J) pl 0 0 29 [(1, .int 3), (0, .ref p)] []
  refine a_aload_n F 1 dX0_setUp_29 rfl rfl ?_
  refine a_iconst (v := 1) F dX0_setUp_30 (by decide) ?_
  refine a_stP F S 0 rfl (vp_in_nI (n := 3) (by decide) (by decide)) dX0_setUp_31 dX0_setUp_34 dX0_setUp_35 ?_
  refine a_stM F S 0 rfl (vp_in_nI (n := 3) (by decide) (by decide)) dX0_setUp_36 dX0_setUp_39 dX0_setUp_40 ?_
  show WA X (mC P O (up2 I p 1 0) (up1 A (p + 1) (tkF9 (tkF9 (tkF9 (tkF9 (tkF9 (tkF9 (tkF9 (clrR (A (p + 1))) 0 24 2) 1 24 2) 0 13 5) 1 13 5) 0 8 3) 1 8 3) 0 6 5)) J) pl 0 0 41 [(1, .int 3), (0, .ref p)] [.int 5, .int 6, .int 1, .ref p]
  refine a_callV (b := p) (As := [.int 1, .int 6, .int 5]) (st := []) (ci := 0) F (c_0_takeFromOff (xl X) hP (up2 I p 1 0) (up1 A (p + 1) (tkF9 (tkF9 (tkF9 (tkF9 (tkF9 (tkF9 (tkF9 (clrR (A (p + 1))) 0 24 2) 1 24 2) 0 13 5) 1 13 5) 0 8 3) 1 8 3) 0 6 5)) J hB p hk_p hp_p hq_p 1 6 5 (vp_in_nI (n := 26) (by decide) (by decide)) (vp_in_nI (n := 32) (by decide) (by decide))) ml_0_38 im_yX0_takeFromOff se_yX0_takeFromOff (by decide) (by decide) rfl hp_p hk_p rfl dX0_setUp_41 (by decide) (Nat.le_refl 0) (Nat.le_refl 0) (hl_i (hl_r hp_p hl_nil)) hs_nil ?_
  rintro _ _ _ ⟨rfl, rfl, rfl⟩ _
  rw [up1_up1, up1_s]
  show WA X (mC P O (up2 I p 1 0) (up1 A (p + 1) (tkF9 (tkF9 (tkF9 (tkF9 (tkF9 (tkF9 (tkF9 (tkF9 (clrR (A (p + 1))) 0 24 2) 1 24 2) 0 13 5) 1 13 5) 0 8 3) 1 8 3) 0 6 5) 1 6 5)) J) pl 0 0 44 [(1, .int 3), (0, .ref p)] []
  refine a_iinc (v := 4) F 0 dX0_setUp_44 rfl (by decide) (by decide) rfl ?_
  refine a_goto (tgt := 6) F dX0_setUp_47 (by decide) ?_
  refine a_sub [0, 1] rfl ?_
  refine a_iload_n F 0 dX0_setUp_6 rfl rfl ?_
  refine a_stL F S dX0_setUp_7 dX0_setUp_10 ?_
  refine a_icmp_ge (tgt := 50) F dX0_setUp_11 (by decide) (fun _ => ?_) (fun c => absurd (by decide) c)
  exact a_vret F E dX0_setUp_50 (Nat.le_refl 0) (Nat.le_refl 0) ⟨rfl, rfl, _, rfl, st_row _⟩
