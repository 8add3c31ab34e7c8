/-! roll, back -/
section
variable {X : Ctx} {b ax ay ao L n g k1 k2 : Nat} {xs0 : Nat → Int32} {I A : Nat → Nat → Int32} {J : Nat → Nat → Int64} {P O : Nat → Nat → Option Nat} {IC AC : Nat → Nat → Int32} {JC : Nat → Nat → Int64} {pl : List Nat} {U : Nat → Int64} {I' A' IC' AC' : Nat → Nat → Int32} {O' : Nat → Nat → Option Nat}
theorem d_mx (a b : Int32) : (if a < b then b else a) = (if a ≤ b then b else a) := by
  by_cases h : a < b
  · rw [if_pos h, if_pos (by grind)]
  · by_cases h' : a ≤ b
    · rw [if_neg h, if_pos h']; grind
    · rw [if_neg h, if_neg h']
theorem d_mn (a b : Int32) : (if b < a then b else a) = (if a ≤ b then a else b) := by
  by_cases h : b < a
  · rw [if_pos h, if_neg (by grind)]
  · rw [if_neg h, if_pos (by grind)]
theorem d_le (a b : Int32) : (if a ≤ b then a else b) ≤ (if a ≤ b then b else a) := by
  by_cases h : a ≤ b
  · rw [if_pos h, if_pos h]; exact h
  · rw [if_neg h, if_neg h]; grind
theorem tRs.mv {m m' mt : Nat} {τ : TB} (h : tRs m mt τ I A P IC AC JC pl) (hz : τ.2.1 = 0) : tRs m' mt τ I A P IC AC JC pl := ⟨h.1, ⟨fun z => absurd hz z, fun _ => hz⟩, h.2.2⟩
theorem tMt.roll (tm : tMt I A IC AC) (e20 : I' 0 20 = 3) (q20 : IC' 114 12 = 3) (hI : ∀ k, 20 < k → k ≠ 25 → k ≠ 28 → k ≠ 29 → k < 34 → I' 0 k = I 0 k) (h25 : I' 0 25 = I 0 25 + 1) (hC : ∀ k, k ≠ 7 → k ≠ 10 → k ≠ 11 → k ≠ 12 → IC' 114 k = IC 114 k) (h7 : IC' 114 7 = IC 114 7 + 1) (d1 : IC' 114 10 = I' 0 28) (d2 : IC' 114 11 = I' 0 29) (d3 : I' 0 29 ≤ I' 0 28) : tMt I' A IC' AC := by
  obtain ⟨a0, a1, a2, a3, a4, a5, a6, a7, a8, a9, b0, b1, b2, b3, b4, b5, b6⟩ := tm
  refine ⟨by rw [e20]; decide, by rw [e20, q20], ?_, ?_, ?_, ?_, by rw [h7, h25, a6], ?_, ?_, fun _ => ⟨d1, d2, d3⟩, fun z => absurd e20 z, ?_, ?_, ?_, ?_, b5, b6⟩
  · rw [hC 1 (by decide) (by decide) (by decide) (by decide), hI 21 (by decide) (by decide) (by decide) (by decide) (by decide)]; exact a2
  · rw [hC 13 (by decide) (by decide) (by decide) (by decide), hI 22 (by decide) (by decide) (by decide) (by decide) (by decide)]; exact a3
  · rw [hC 2 (by decide) (by decide) (by decide) (by decide), hI 23 (by decide) (by decide) (by decide) (by decide) (by decide)]; exact a4
  · rw [hC 6 (by decide) (by decide) (by decide) (by decide), hI 24 (by decide) (by decide) (by decide) (by decide) (by decide)]; exact a5
  · rw [hC 8 (by decide) (by decide) (by decide) (by decide), hI 26 (by decide) (by decide) (by decide) (by decide) (by decide)]; exact a7
  · rw [hC 9 (by decide) (by decide) (by decide) (by decide), hI 27 (by decide) (by decide) (by decide) (by decide) (by decide)]; exact a8
  · rw [hC 3 (by decide) (by decide) (by decide) (by decide), hI 31 (by decide) (by decide) (by decide) (by decide) (by decide)]; exact b1
  · rw [hC 4 (by decide) (by decide) (by decide) (by decide), hI 32 (by decide) (by decide) (by decide) (by decide) (by decide)]; exact b2
  · rw [hI 32 (by decide) (by decide) (by decide) (by decide) (by decide)]; exact b3
  · rw [hC 5 (by decide) (by decide) (by decide) (by decide), hI 33 (by decide) (by decide) (by decide) (by decide) (by decide)]; exact b4
theorem s_roll (F : FLx X cL_law RL 7) (hR : RmL X) (hC : RmC X) (S : Scr X b L xs0) (hn : n + 5 < L) (T : TIE g I A J P O IC AC JC pl) (h1 : k1 ≤ potC n g (frT O)) (h2 : k2 ≤ potS n g (frT O)) (kc : KC X b ax ay ao n) : LA X ax ay ao (mS I A J) plM (mC P O IC AC JC) pl U k1 k2 (strt 12) (LB b ax ay ao (nI n)) [] := by
  obtain ⟨p1, p2⟩ := pot_le (n := n) (f := frT O) (by have := S.2.2.2; omega) T.g6
  obtain ⟨m, B, sz, Lv, p, hd, mt, τ, iv, eg, tb, tm, tt, tp, tl, ts, tr⟩ := id T
  have hc := hC.1
  have hs := hC.2.1
  have i100 : 100 ∈ pl := iv.2.1 _ (by decide)
  generalize ea : xs0 (n + 1) = a
  generalize eb : xs0 (n + 2) = c
  refine w_roll F hR S hn (h_roll (p0 := xs0 (n + 1)) (p1 := xs0 (n + 2)) (c_11_roll (xl X) hC.2.2 iv.1 IC AC JC iv.2.1 (xs0 (n + 1)) (xs0 (n + 2))) i100 rfl (fun r σ' pl' h => by rcases h.2 with h | h <;> exact ⟨_, h.2.1⟩) (fun E σ' pl' h => by exact h.2.2.imp And.left And.left)) i100 (by omega) (by omega) ?_
  rw [ea, eb]
  intro k σ' pl' U' hΘ _
  refine ⟨2, _, by decide, c_roll (xl X) I A J a c, ?_⟩
  have e12 := tm.2.1
  rcases hΘ with ⟨rfl, v, ⟨hdc, hv⟩, rfl⟩ | ⟨E, ⟨rfl, rfl, he⟩, rfl, rfl⟩
  · rw [if_pos ⟨hdc.1.1, hdc.1.2, hdc.2.1, hdc.2.2⟩]
    rcases hv with ⟨hst, hv, rfl, rfl⟩ | ⟨hst, hv, rfl, rfl⟩
    · cases hv
      have h20 : I 0 20 = 1 := by rw [← e12]; exact hst
      rw [if_pos (Or.inl h20)]
      have hz := tr.2.1.2 (qSt.of h20 (by decide))
      rintro r σR plR ⟨rfl, rfl, rfl⟩
      by_cases hab : a = c
      · unfold tfI rollI
        rw [if_pos hab, if_pos ⟨h20, hab⟩, if_pos ⟨h20, hab⟩]
        obtain ⟨a0, a1, a2, a3, a4, a5, a6, a7, a8, a9, b0, b1, b2, b3, b4, b5, b6⟩ := tm
        refine ⟨_, _, _, _, rfl, rfl, rfl, rfl, fun _ => ?_, kc _ _ _ _ _ _ _ _ (INV.mk (g := g) ⟨m, B, sz, Lv, p, hd, mt, τ, iv.fr (fun q k hq => up2_p (by omega)) rfl, eg, tb, ⟨a0, a1, a2, a3, a4, a5, congrArg (· + 1) a6, a7, a8, a9, b0, b1, b2, b3, b4, b5, b6⟩, tt, tp, tl, ts.fr rfl rfl rfl rfl (fun q k hq => up2_p (by omega)) (fun q hq => rfl), tr.fr rfl rfl id rfl rfl rfl rfl rfl rfl (fun q hq => rfl)⟩ (pot_st h1 h2 (by decide) (by decide)))⟩
        show (IC 114 12).toInt64 = (1 : Int32).toInt64
        rw [hst]
      · unfold tfI rollI
        rw [if_neg hab, if_neg (fun z => hab z.2), if_neg (fun z => hab z.2), if_pos h20]
        have hm' : (if a ≤ c then (1 : Int32) else 0) = nI (if a ≤ c then 1 else 0) := by split <;> rfl
        obtain ⟨c1, c2, c3, c4, c5, c6⟩ := tb
        refine ⟨_, _, _, _, rfl, rfl, rfl, rfl, fun _ => rfl, kc _ _ _ _ _ _ _ _ (INV.mk (g := g) ⟨if a ≤ c then 1 else 0, B, sz, Lv, p, hd, mt, τ, iv.fr (fun q k hq => ?_) rfl, eg, ⟨by split <;> omega, c2, hm', hm', c5, c6⟩, tm.roll rfl rfl (fun k h0 h1 h2 h3 h4 => ?_) rfl (fun k h0 h1 h2 h3 => ?_) rfl (d_mx a c) (d_mn a c) (d_le a c), tt, tp, tl, ts.fr rfl rfl rfl rfl (fun q k hq => ?_) (fun q hq => rfl), (tr.mv hz).fr rfl rfl (fun z => qSt.of h20 (by decide)) rfl rfl rfl rfl rfl rfl (fun q hq => rfl)⟩ (pot_st h1 h2 (by decide) (by decide)))⟩
        · unfold tdI diceI; simp (disch := omega) only [up2_p]
        · rw [up2_k (by omega), up2_k (by omega), up2_k (by omega), up2_k (by omega), up2_k (by omega), up2_k (by omega)]
        · unfold tdI diceI
          rw [up2_k (by omega), up2_k (by omega), up2_k (by omega), up2_k (by omega), up2_p (by decide)]
        · unfold tdI diceI; simp (disch := omega) only [up2_p]
    · cases hv
      have h20 : I 0 20 = 2 := by rw [← e12]; exact hst
      have hn1 : ¬ I 0 20 = 1 := by rw [h20]; decide
      rw [if_pos (Or.inr h20)]
      rintro r σR plR ⟨rfl, rfl, rfl⟩
      unfold rollI
      rw [if_neg (fun z => hn1 z.1), if_neg (fun z => hn1 z.1), if_neg hn1]
      refine ⟨_, _, _, _, rfl, rfl, rfl, rfl, fun _ => rfl, kc _ _ _ _ _ _ _ _ (INV.mk (g := g) ⟨m, B, sz, Lv, p, hd, mt, τ, iv.fr (fun q k hq => ?_) rfl, eg, tb, tm.roll rfl rfl (fun k h0 h1 h2 h3 h4 => ?_) rfl (fun k h0 h1 h2 h3 => ?_) rfl (d_mx a c) (d_mn a c) (d_le a c), tt, tp, tl, ts.fr rfl rfl rfl rfl (fun q k hq => ?_) (fun q hq => rfl), tr.fr rfl rfl (fun z => qSt.of h20 (by decide)) rfl rfl rfl rfl rfl rfl (fun q hq => rfl)⟩ (pot_st h1 h2 (by decide) (by decide)))⟩
      · unfold tdI diceI; simp (disch := omega) only [up2_p]
      · rw [up2_k (by omega), up2_k (by omega), up2_k (by omega), up2_k (by omega), up2_k (by omega)]
      · unfold tdI diceI
        rw [up2_k (by omega), up2_k (by omega), up2_k (by omega), up2_k (by omega)]
      · unfold tdI diceI; simp (disch := omega) only [up2_p]
  · rcases he with ⟨rfl, he⟩ | ⟨rfl, hdc, n1, n2⟩
    · rw [if_neg (fun z => he ⟨⟨z.1, z.2.1⟩, z.2.2⟩)]
      rintro r σR plR ⟨rfl, rfl, rfl⟩
      exact ⟨_, _, _, _, rfl, rfl, rfl, rfl, fun z => absurd z (by decide), kc _ _ _ _ _ _ _ _ (INV.mk (T.thr _) (pot_st h1 h2 (by decide) (by decide)))⟩
    · rw [if_pos ⟨hdc.1.1, hdc.1.2, hdc.2.1, hdc.2.2⟩, if_neg (fun z => by rw [e12] at n1 n2; exact z.elim n1 n2)]
      rintro r σR plR ⟨rfl, rfl, rfl⟩
      exact ⟨_, _, _, _, rfl, rfl, rfl, rfl, fun z => absurd z (by decide), kc _ _ _ _ _ _ _ _ (INV.mk (T.thr _) (pot_st h1 h2 (by decide) (by decide)))⟩
theorem s_back (F : FLx X cL_law RL 7) (hR : RmL X) (hC : RmC X) (S : Scr X b L xs0) (hn : n + 5 < L) (T : TIE g I A J P O IC AC JC pl) (h1 : k1 ≤ potC n g (frT O)) (h2 : k2 ≤ potS n g (frT O)) (kc : KC X b ax ay ao n) : LA X ax ay ao (mS I A J) plM (mC P O IC AC JC) pl U k1 k2 (strt 10) (LB b ax ay ao (nI n)) [] := by
  obtain ⟨p1, p2⟩ := pot_le (n := n) (f := frT O) (by have := S.2.2.2; omega) T.g6
  obtain ⟨m, B, sz, Lv, p, hd, mt, τ, iv, eg, tb, tm, tt, tp, tl, ts, tr⟩ := id T
  have hc := hC.1
  have hs := hC.2.1
  have i100 : 100 ∈ pl := iv.2.1 _ (by decide)
  obtain ⟨a1, a2, a3, a4, a5, a6⟩ := id ts
  have h8 : (hd + 8 - 0) % 8 = hd := by omega
  refine w_back F hR S hn (c_11_back (xl X) hC.2.2 iv.1 IC AC JC iv.2.1 hd p iv.2.2.2.2.1 a2 a1 a4 a5 (fun hp => by have z := (a6 0 (by omega)).1; rw [h8] at z; exact z) tr.2.2.1) i100 rfl (by omega) (by omega) (fun r σ' pl' h => by exact h.2.elim (fun h => ⟨_, h.2.1⟩) (fun h => ⟨_, h.2.2.1⟩)) ?_
  intro v σ' pl' h _
  refine ⟨2, _, by decide, c_back (xl X) I A J p a1 a3, ?_⟩
  obtain ⟨rfl, h⟩ := h
  rcases h with ⟨hu, hv, rfl⟩ | ⟨hu, hp, hv, I1, A1, hg, rfl⟩
  · cases hv
    rw [t_und tm] at hu
    rw [if_pos hu]
    rintro r σR plR ⟨rfl, rfl, rfl⟩
    exact ⟨_, _, _, rfl, rfl, rfl, kc _ _ _ _ _ _ _ _ (INV.mk (T.thr 0) (pot_st h1 h2 (by decide) (by decide)))⟩
  · cases hv
    rw [t_und tm] at hu
    rw [if_neg (fun z => z.elim hu hp)]
    rintro r σR plR ⟨rfl, rfl, rfl⟩
    obtain ⟨-, hg⟩ := hg
    rcases hg with ⟨hz, -⟩ | ⟨-, -, I2, A2, eM, g1, g2, g3, g4, g5, g6⟩
    · exact absurd hz hp
    have eI : I1 = I2 := congrArg (fun s : HS => s.2.2.1) eM
    have eA : A1 = A2 := congrArg (fun s : HS => s.2.2.2.2.1) eM
    subst eI eA
    obtain ⟨o0, m', B', o1, o2, o3, o4, o5, o6⟩ := a6 0 (by omega)
    rw [h8] at o0 o3 o4
    rw [Nat.sub_zero] at o5 o6
    have fI : ∀ q k, q ≠ 130 → q ≠ 102 → I1 q k = IC q k := fun q k hq1 hq2 => g4 q k (fun z => hq1 z.1) (fun z => hq2 z.1)
    have fA : ∀ q, q ≠ 131 → A1 q = AC q := fun q hq => g6 q hq
    refine ⟨_, _, _, rfl, rfl, rfl, kc _ _ _ _ _ _ _ _ (INV.mk (g := g) ⟨m', B', sz, Lv, p - 1, (hd + 7) % 8, mt, (τ.1, 0, τ.2.2.1, τ.2.2.2.1, τ.2.2.2.2), iv.fr (fun q k hq => ?_) ?_, eg, ⟨o1, o2, o6, ?_, ?_, ?_⟩, ?_, ?_, ?_, ?_, ⟨by omega, Nat.mod_lt _ (by decide), rfl, ?_, ?_, fun j hj => ?_⟩, tr.zero rfl rfl ?_ ?_ rfl⟩ (pot_st h1 h2 (by decide) (by decide)))⟩
    · rw [up2_p (by omega), fI _ _ (by omega) (by omega)]
    · exact fA 118 (by decide)
    · show I1 130 1 = nI m'
      rw [g1]; exact o4
    · intro k hk
      rw [up1_s, Nat.zero_add]
      unfold segF
      rw [if_pos (by omega), Nat.sub_zero]
      have := (o3 k hk).2
      exact ⟨o5 k hk, this⟩
    · intro k hk
      have := o3 k hk
      rw [Nat.zero_add] at this ⊢
      exact ⟨by rw [g5 k hk]; exact this.1, this.2⟩
    · obtain ⟨b1, b2, b3, b4, b5, b6, b7, b8, b9, c0, c1, c2, c3, c4, c5, c6, c7⟩ := tm
      have f4 : ∀ k, (up2 I1 110 7 0) 114 k = IC 114 k := fun k => fI 114 k (by decide) (by decide)
      unfold tMt
      rw [f4, f4, f4, f4, f4, f4, f4, f4, f4, f4, f4, f4, f4, fA 115 (by decide)]
      exact ⟨b1, b2, b3, b4, b5, b6, b7, b8, b9, c0, c1, c2, c3, c4, c5, c6, c7⟩
    · obtain ⟨b1, b2, b3, b4, b5⟩ := tt
      exact ⟨b1, b2, (fI 120 1 (by decide) (by decide)).trans b3, by rw [fA 121 (by decide)]; exact b4, b5.trans (fI 104 8 (by decide) (by decide)).symm⟩
    · obtain ⟨len, b1, b2, b3, b4⟩ := tp
      exact ⟨len, b1, b2, (fI 122 1 (by decide) (by decide)).trans b3, by rw [fA 123 (by decide)]; exact b4⟩
    · exact ⟨tl.1, tl.2.1, (fI 100 10 (by decide) (by decide)).trans tl.2.2⟩
    · exact g2
    · exact g3
    · obtain ⟨u0, m2, B2, u1, u2, u3, u4, u5, u6⟩ := a6 (j + 1) (by omega)
      have e1 : ((hd + 7) % 8 + 8 - j) % 8 = (hd + 8 - (j + 1)) % 8 := by omega
      have e2 : p - 1 - 1 - j = p - 1 - (j + 1) := by omega
      have hs8 : (hd + 8 - (j + 1)) % 8 < 8 := Nat.mod_lt _ (by decide)
      rw [e1, e2]
      generalize (hd + 8 - (j + 1)) % 8 = s at *
      exact ⟨u0, m2, B2, u1, u2, by rw [fA _ (by omega)]; exact u3, by rw [up2_p (by omega), fI _ _ (by omega) (by omega)]; exact u4, u5, u6⟩
    · exact fI 110 5 (by decide) (by decide)
    · exact fI 110 6 (by decide) (by decide)
end