/-! result, way -/
section
variable {X : Ctx} {b ax ay ao L n g k1 k2 : Nat} {xs0 : Nat → Int32} {I A : Nat → Nat → Int32} {J : Nat → Nat → Int64} {P O : Nat → Nat → Option Nat} {IC AC : Nat → Nat → Int32} {JC : Nat → Nat → Int64} {pl : List Nat} {U : Nat → Int64} {I' A' IC' AC' : Nat → Nat → Int32} {O' : Nat → Nat → Option Nat}
theorem tRs.okR {m mt : Nat} {τ : TB} (h : tRs m mt τ I A P IC AC JC pl) : okR I A := by
  obtain ⟨a1, a2, a3, a4, a5, a6⟩ := h
  have hc := tb_cnt a3
  refine ⟨by rw [a4]; exact (nI_len (k := τ.2.1) 3200 (by omega) (by omega)).mpr (by omega), fun i h0 h1 => ?_⟩
  rw [a4] at h1
  obtain ⟨q, hq, rfl⟩ := nI_of2 (x := i) (M := nI τ.2.1) (n := τ.2.1) (nI_toInt (by omega)) (by grind) (by grind)
  rw [nI_clamp (by omega)]
  obtain ⟨r, hr, e, -⟩ := a6 q ((nI_ltI (by omega) (by omega)).mp h1)
  rw [e]
  exact ⟨(nI_gen (k := r) 0 (by omega) (by omega)).mpr (by omega), (nI_ltn (k := r) 3200 (by omega) (by omega)).mpr hr⟩
theorem tRs.at {m mt : Nat} {τ : TB} (h : tRs m mt τ I A P IC AC JC pl) {x : Int32} (h0 : 0 ≤ x ∧ x < IC 110 7) : ∃ i, x = nI i ∧ i < τ.2.1 ∧ τ.2.1 ≤ 3072 := by
  obtain ⟨a1, a2, a3, a4, a5, a6⟩ := h
  have hc := tb_cnt a3
  rw [a3.2.2.2.2.2.1] at h0
  obtain ⟨q, hq, rfl⟩ := nI_of2 (x := x) (M := nI τ.2.1) (n := τ.2.1) (nI_toInt (by omega)) (by grind) (by grind)
  exact ⟨q, rfl, (nI_ltI (by omega) (by omega)).mp h0.2, hc⟩
theorem tRs.cn {m mt : Nat} {τ : TB} (h : tRs m mt τ I A P IC AC JC pl) : IC 110 7 = I 0 16 := by rw [h.2.2.2.1, h.2.2.1.2.2.2.2.2.1]
theorem s_result (F : FLx X cL_law RL 7) (hR : RmL X) (hC : RmC X) (S : Scr X b L xs0) (hn : n + 5 < L) (T : TIE g I A J P O IC AC JC pl) (h1 : k1 ≤ potC n g (frT O)) (h2 : k2 ≤ potS n g (frT O)) (kc : KC X b ax ay ao n) : LA X ax ay ao (mS I A J) plM (mC P O IC AC JC) pl U k1 k2 (strt 6) (LB b ax ay ao (nI n)) [] := by
  obtain ⟨p1, p2⟩ := pot_le (n := n) (f := frT O) (by have := S.2.2.2; omega) T.g6
  obtain ⟨m, B, sz, Lv, p, hd, mt, τ, iv, eg, tb, tm, tt, tp, tl, ts, tr⟩ := id T
  have hc := hC.1
  have hs := hC.2.1
  have i100 : 100 ∈ pl := iv.2.1 _ (by decide)
  generalize ea : xs0 (n + 1) = x
  generalize eb : xs0 (n + 2) = u
  generalize ec : xs0 (n + 3) = v0
  refine w_result F hR S hn (h_result (p0 := xs0 (n + 1)) (p1 := xs0 (n + 2)) (p2 := xs0 (n + 3)) (c_11_result (xl X) hC.2.2 iv.1 IC AC JC iv.2.1 (xs0 (n + 1)) (xs0 (n + 2)) (xs0 (n + 3)) tr.1 tr.2.2.1) i100 rfl (fun r σ' pl' h => ⟨_, h.2.2.1⟩) (fun E σ' pl' h => h.2.2.imp And.left And.left)) i100 (by omega) (by omega) ?_
  rw [ea, eb, ec]
  intro k σ' pl' U' hΘ _
  refine ⟨2, _, by decide, c_result (xl X) I A J x u v0 tr.okR, ?_⟩
  have e7 := tr.cn
  rcases hΘ with ⟨rfl, v, ⟨h0, hq, hv, rfl, rfl⟩, rfl⟩ | ⟨E, ⟨rfl, rfl, he⟩, rfl, rfl⟩
  · rw [← e7, if_pos h0, if_pos ⟨hq.1.1, hq.1.2, hq.2.1, hq.2.2⟩]
    cases hv
    obtain ⟨i, rfl, hi, hc0⟩ := tr.at h0
    obtain ⟨r0, hr0, er, -, eT, -⟩ := tr.2.2.2.2.2 i hi
    obtain ⟨u', hu', rfl⟩ := nI_of2 (x := u) (M := 1) (n := 1) rfl (by grind) hq.1.2
    obtain ⟨v', hv', rfl⟩ := nI_of2 (x := v0) (M := 25) (n := 25) rfl (by grind) hq.2.2
    rintro r σR plR ⟨rfl, rfl, rfl⟩
    refine ⟨_, _, _, _, rfl, rfl, rfl, rfl, fun _ => ?_, kc _ _ _ _ _ _ _ _ (INV.mk (T.thr _) (pot_st h1 h2 (by decide) (by decide)))⟩
    rw [nI_clamp (by omega), nI_clamp (by omega), nI_clamp (by omega), er, show (52 : Int32) = nI 52 from rfl, show (26 : Int32) = nI 26 from rfl, nI_T, nI_T, nI_A, nI_A, nI_clamp (by omega), Nat.add_assoc, eT _ (by omega)]
    rfl
  · rcases he with ⟨rfl, he⟩ | ⟨rfl, h0, he⟩
    · rw [← e7, if_neg he]
      rintro r σR plR ⟨rfl, rfl, rfl⟩
      exact ⟨_, _, _, _, rfl, rfl, rfl, rfl, fun z => absurd z (by decide), kc _ _ _ _ _ _ _ _ (INV.mk (T.thr _) (pot_st h1 h2 (by decide) (by decide)))⟩
    · rw [← e7, if_pos h0, if_neg (fun z => he ⟨⟨z.1, z.2.1⟩, z.2.2⟩)]
      rintro r σR plR ⟨rfl, rfl, rfl⟩
      exact ⟨_, _, _, _, rfl, rfl, rfl, rfl, fun z => absurd z (by decide), kc _ _ _ _ _ _ _ _ (INV.mk (T.thr _) (pot_st h1 h2 (by decide) (by decide)))⟩
theorem s_way (F : FLx X cL_law RL 7) (hR : RmL X) (hC : RmC X) (S : Scr X b L xs0) (hn : n + 5 < L) (T : TIE g I A J P O IC AC JC pl) (h1 : k1 ≤ potC n g (frT O)) (h2 : k2 ≤ potS n g (frT O)) (kc : KC X b ax ay ao n) : LA X ax ay ao (mS I A J) plM (mC P O IC AC JC) pl U k1 k2 (strt 7) (LB b ax ay ao (nI n)) [] := by
  obtain ⟨p1, p2⟩ := pot_le (n := n) (f := frT O) (by have := S.2.2.2; omega) T.g6
  obtain ⟨m, B, sz, Lv, p, hd, mt, τ, iv, eg, tb, tm, tt, tp, tl, ts, tr⟩ := id T
  have hc := hC.1
  have hs := hC.2.1
  have i100 : 100 ∈ pl := iv.2.1 _ (by decide)
  generalize ea : xs0 (n + 1) = x
  generalize eb : xs0 (n + 2) = u
  refine w_way F hR S hn (h_way (p0 := xs0 (n + 1)) (p1 := xs0 (n + 2)) (c_11_way (xl X) hC.2.2 iv.1 IC AC JC iv.2.1 (xs0 (n + 1)) (xs0 (n + 2)) tr.2.2.1) i100 rfl (fun r σ' pl' h => ⟨_, h.2.1⟩) (fun E σ' pl' h => h.1)) i100 (by omega) (by omega) ?_
  rw [ea, eb]
  intro k σ' pl' U' hΘ _
  refine ⟨2, _, by decide, c_way (xl X) I A J x u tr.okR tr.2.2.2.2.1, ?_⟩
  have e7 := tr.cn
  rcases hΘ with ⟨rfl, v, ⟨h0, hv, rfl, rfl⟩, rfl⟩ | ⟨E, ⟨rfl, rfl, rfl, he⟩, rfl, rfl⟩
  · rw [← e7, if_pos h0]
    cases hv
    obtain ⟨i, rfl, hi, hc0⟩ := tr.at h0
    obtain ⟨r0, hr0, er, -, -, eW⟩ := tr.2.2.2.2.2 i hi
    rintro r σR plR ⟨rfl, rfl, rfl⟩
    refine ⟨_, _, _, _, rfl, rfl, rfl, rfl, fun _ => ?_, kc _ _ _ _ _ _ _ _ (INV.mk (T.thr _) (pot_st h1 h2 (by decide) (by decide)))⟩
    rw [nI_clamp (by omega), er, eW u]
    rfl
  · rw [← e7, if_neg he]
    rintro r σR plR ⟨rfl, rfl, rfl⟩
    exact ⟨_, _, _, _, rfl, rfl, rfl, rfl, fun z => absurd z (by decide), kc _ _ _ _ _ _ _ _ (INV.mk (T.thr _) (pot_st h1 h2 (by decide) (by decide)))⟩
end