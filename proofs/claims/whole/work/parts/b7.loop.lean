/-! THE LAW'S LOOP -/
def strt (c : Nat) : Nat := match c with
  | 0 => 148 | 1 => 221 | 2 => 277 | 3 => 290 | 4 => 358 | 5 => 414 | 6 => 482 | 7 => 562 | 8 => 630 | 9 => 686 | 10 => 766 | 11 => 779 | 12 => 815 | 13 => 883 | 14 => 927 | 15 => 999 | 16 => 1023 | 17 => 1079 | 18 => 1123 | 19 => 1179 | 20 => 1259 | 21 => 1327 | 22 => 1395 | _ => 1420
theorem i_31 (w : Nat) : nI w &&& 31 = nI (w % 32) := by
  apply Int32.toBitVec_inj.mp
  show BitVec.ofNat 32 w &&& BitVec.ofNat 32 31 = BitVec.ofNat 32 (w % 32)
  apply BitVec.eq_of_toNat_eq
  rw [BitVec.toNat_and, BitVec.toNat_ofNat, BitVec.toNat_ofNat, BitVec.toNat_ofNat, show 31 % 2 ^ 32 = 2 ^ 5 - 1 by decide, Nat.and_two_pow_sub_one_eq_mod]
  omega
theorem and31 (x : Int32) : ∃ c, c < 32 ∧ x &&& 31 = nI c := by
  obtain ⟨n, _, rfl⟩ := wb_of32 x
  exact ⟨n % 32, Nat.mod_lt _ (by decide), i_31 n⟩
theorem sm6 : ∀ L, L < 6 → nI L - 6 < 0 := by decide +kernel
section
variable {X : Ctx} {b ax ay ao : Nat} {L : Nat} {xs0 : Nat → Int32}
abbrev INVT : Type := Nat → (Nat → Nat → Int32) → (Nat → Nat → Int32) → (Nat → Nat → Int64) → HS → List Nat → (Nat → Int64) → Nat → Nat → Prop
theorem l_loop (F : FLx X cL_law RL 7) (S : Scr X b L xs0) (INV : INVT)
    (hskip : ∀ n I A J σC plC U k1 k2, INV n I A J σC plC U k1 k2 → INV (n + 6) I A J σC plC U k1 k2)
    (hend : ∀ n I A J σC plC U k1 k2, INV n I A J σC plC U k1 k2 → n ≤ L → LA X ax ay ao (mS I A J) plM σC plC U k1 k2 1426 (LB b ax ay ao (nI n)) [])
    (hstep : ∀ c, c < 23 → ∀ n I A J σC plC U k1 k2, INV n I A J σC plC U k1 k2 → n + 5 < L → (∀ I' A' J' σ' pl' U' j1 j2, INV (n + 6) I' A' J' σ' pl' U' j1 j2 → LA X ax ay ao (mS I' A' J') plM σ' pl' U' j1 j2 1420 (LB b ax ay ao (nI n)) []) → LA X ax ay ao (mS I A J) plM σC plC U k1 k2 (strt c) (LB b ax ay ao (nI n)) []) :
    ∀ f n I A J σC plC U k1 k2, n + f = L → INV n I A J σC plC U k1 k2 → LA X ax ay ao (mS I A J) plM σC plC U k1 k2 23 (LB b ax ay ao (nI n)) [] := by
  intro f
  induction f using Nat.strongRecOn with
  | ind f ih =>
    intro n I A J σC plC U k1 k2 hf hI
    have hL := S.2.2.2
    refine l_iload F 4 dL_law_23 rfl (l_aload_n F 0 dL_law_25 rfl rfl (l_len F S.1 S.2.1 S.2.2.1 dL_law_26 (l_bipush F (v := 6) dL_law_27 (by decide) (l_isub F dL_law_29 ?_))))
    refine l_icmp_gt (tgt := 1426) F dL_law_30 (by decide) (fun _ => hend n I A J σC plC U k1 k2 hI (by omega)) (fun hz => ?_)
    have hn : n + 5 < L := by
      apply Classical.byContradiction
      intro hc
      apply hz
      by_cases h6 : 6 ≤ L
      · rw [show nI L - 6 = nI (L - 6) from nI_S (b := 6) h6]
        exact (nI_ltI (by omega) (by omega)).mpr (by omega)
      · exact Int32.lt_of_lt_of_le (sm6 L (by omega)) ((nI_gen (k := n) 0 (by omega) (by omega)).mpr (Nat.zero_le _))
    have kc : ∀ I' A' J' σ' pl' U' j1 j2, INV (n + 6) I' A' J' σ' pl' U' j1 j2 → LA X ax ay ao (mS I' A' J') plM σ' pl' U' j1 j2 1420 (LB b ax ay ao (nI n)) [] := fun I' A' J' σ' pl' U' j1 j2 h => by
      refine l_iinc (k0 := 4) (v := nI (n + 6)) (ls' := (4, .int (nI (n + 6))) :: [(0, .ref b), (1, .ref ax), (2, .ref ay), (3, .ref ao)]) F dL_law_1420 rfl (nI_A n 6) (by decide) rfl ?_
      refine l_goto (tgt := 23) F dL_law_1423 (by decide) (l_sub [1, 2, 3, 4, 0] rfl ?_)
      exact ih (f - 6) (by omega) (n + 6) I' A' J' σ' pl' U' j1 j2 (by omega) h
    refine l_ld0 F S.1 S.2.1 S.2.2.1 (n := n) 0 4 (by omega) hL dL_law_33 dL_law_34 dL_law_36 rfl rfl (l_bipush F (v := 31) dL_law_37 (by decide) (l_iand F dL_law_39 ?_))
    obtain ⟨c, hc, ec⟩ := and31 (xs0 n)
    rw [ec]
    have ti : (nI c).toInt = c := nI_toInt (by omega)
    by_cases h22 : 22 < c
    · intro adR adC H locs la h hx hy hl
      refine lv_tableOut F.1 F.2.1 dL_law_40 (tgt := 1420) (Or.inr (by rw [ti]; omega)) (by decide) ?_
      exact kc I A J σC plC U k1 k2 (hskip _ _ _ _ _ _ _ _ _ hI) adR adC H locs la h hx hy hl
    · have go := hstep c (by omega) n I A J σC plC U k1 k2 hI hn kc
      intro adR adC H locs la h hx hy hl
      refine lv_tableIn F.1 F.2.1 dL_law_40 (tgt := strt c) (off := (strt c : Int) - 40) (by rw [ti]; omega) (by rw [ti]; omega) ?_ (by omega) (go adR adC H locs la h hx hy hl)
      rw [ti, show ((c : Int) - 0).toNat = c by omega]
      have h23 : c < 23 := by omega
      clear go kc ih ti ec hc h22
      revert h23
      revert c
      decide
end