/-! commands of the match; back -/
section
variable {X : Ctx} {b ax ay ao L n g k1 k2 : Nat} {xs0 : Nat → Int32} {I A : Nat → Nat → Int32} {J : Nat → Nat → Int64} {P O : Nat → Nat → Option Nat} {IC AC : Nat → Nat → Int32} {JC : Nat → Nat → Int64} {pl : List Nat} {U : Nat → Int64} {I' A' IC' AC' : Nat → Nat → Int32} {O' : Nat → Nat → Option Nat}
def B00 (k : Nat) : Nat := (startB k).toNatClampNeg
theorem ok00 : okB B00 := by constructor <;> decide +kernel
theorem bd00 {r : Nat → Int32} (h : ∀ k, k < 52 → r k = startB k) : bdR r 0 B00 := by
  have hb : ∀ k, k < 52 → startB k = nI (B00 k) ∧ B00 k ≤ 30 := by decide +kernel
  intro k hk
  rw [Nat.zero_add, h k hk]
  exact hb k hk
theorem bd00f (f : Nat → Int32) : bdR (fillF f 52 startB) 0 B00 := bd00 (fun k hk => by unfold fillF; rw [if_pos hk])
def tMc (I A IC AC : Nat → Nat → Int32) : Prop := IC 114 1 = I 0 21 ∧ IC 114 13 = I 0 22 ∧ IC 114 2 = I 0 23 ∧ IC 114 6 = I 0 24 ∧ IC 114 7 = I 0 25 ∧ IC 114 3 = I 0 31 ∧ IC 114 4 = I 0 32 ∧ (I 0 32 = 0 ∨ I 0 32 = 1) ∧ IC 114 5 = I 0 33 ∧ AC 115 0 = A 30 0 ∧ AC 115 1 = A 30 1
theorem tMt.c (tm : tMt I A IC AC) : tMc I A IC AC := by
  obtain ⟨a0, a1, a2, a3, a4, a5, a6, a7, a8, a9, b0, b1, b2, b3, b4, b5, b6⟩ := tm
  exact ⟨a2, a3, a4, a5, a6, b1, b2, b3, b4, b5, b6⟩
theorem st56 {x y : Int32} : (0 ≤ (if x ≤ 0 then (5 : Int32) else if y < x then 5 else 6) ∧ (if x ≤ 0 then (5 : Int32) else if y < x then 5 else 6) ≤ 6) ∧ ¬ (if x ≤ 0 then (5 : Int32) else if y < x then 5 else 6) = 3 ∧ ¬ (if x ≤ 0 then (5 : Int32) else if y < x then 5 else 6) = 1 := by
  by_cases h : x ≤ 0
  · rw [if_pos h]; decide
  · rw [if_neg h]
    by_cases h' : y < x
    · rw [if_pos h']; decide
    · rw [if_neg h']; decide
theorem t_end (tc : tMc I A IC AC) (d1 : IC 114 10 = 0) (d2 : IC 114 11 = 0) {w : Nat} (hw : w ≤ 1) (v : Int32) :
    tMt (endI I (nI w) v (A 30 w + v)) (up1 A 30 (upd (A 30) w (A 30 w + v))) (eCI IC (nI w) v (AC 115 w + v)) (up1 AC 115 (upd (AC 115) w (AC 115 w + v))) ∧ ¬ endI I (nI w) v (A 30 w + v) 0 20 = 1 ∧ eCI IC (nI w) v (AC 115 w + v) 114 12 = endI I (nI w) v (A 30 w + v) 0 20 := by
  obtain ⟨a2, a3, a4, a5, a6, b1, b2, b3, b4, b5, b6⟩ := tc
  have es : AC 115 w = A 30 w := by
    rcases (by omega : w = 0 ∨ w = 1) with rfl | rfl
    · exact b5
    · exact b6
  have hr0 : upd (AC 115) w (AC 115 w + v) 0 = upd (A 30) w (A 30 w + v) 0 := by
    rw [es]
    rcases (by omega : w = 0 ∨ w = 1) with rfl | rfl
    · rfl
    · exact b5
  have hr1 : upd (AC 115) w (AC 115 w + v) 1 = upd (A 30) w (A 30 w + v) 1 := by
    rw [es]
    rcases (by omega : w = 0 ∨ w = 1) with rfl | rfl
    · exact b6
    · rfl
  obtain ⟨s0, s3, s1⟩ := st56 (x := I 0 21) (y := A 30 w + v)
  rw [es]
  rw [es] at hr0 hr1
  unfold endI eCI eBI
  rw [a2, b4]
  generalize (if I 0 21 ≤ 0 then (5 : Int32) else if A 30 w + v < I 0 21 then 5 else 6) = q at s0 s3 s1 ⊢
  by_cases hcnd : ¬ I 0 21 < 2 ∧ I 0 33 = 0 ∧ A 30 w + v = I 0 21 - 1
  · have hcn2 : ¬ I 0 21 < 2 ∧ A 30 w + v = I 0 21 - 1 ∧ I 0 33 = 0 := ⟨hcnd.1, hcnd.2.2, hcnd.2.1⟩
    rw [if_pos hcnd, if_pos hcn2]
    exact ⟨⟨s0, rfl, a2, a3, a4, a5, a6, rfl, rfl, fun z => absurd z s3, fun _ => ⟨d1, d2⟩, b1, rfl, Or.inr rfl, rfl, hr0, hr1⟩, s1, rfl⟩
  · have hcn2 : ¬ (¬ I 0 21 < 2 ∧ A 30 w + v = I 0 21 - 1 ∧ I 0 33 = 0) := fun z => hcnd ⟨z.1, z.2.2, z.2.1⟩
    rw [if_neg hcnd, if_neg hcn2]
    exact ⟨⟨s0, rfl, a2, a3, a4, a5, a6, rfl, rfl, fun z => absurd z s3, fun _ => ⟨d1, d2⟩, b1, b2, b3, b4, hr0, hr1⟩, s1, rfl⟩
theorem eCI_q {w v sc : Int32} {q k : Nat} (h : q ≠ 114) : eCI IC w v sc q k = IC q k := by
  unfold eCI eBI
  by_cases hc : ¬ IC 114 1 < 2 ∧ sc = IC 114 1 - 1 ∧ IC 114 5 = 0
  · rw [if_pos hc, up2_p h, up2_p h, up2_p h, up2_p h, up2_p h]
  · rw [if_neg hc, up2_p h, up2_p h, up2_p h]
theorem endI_k {w v sc : Int32} {k : Nat} (h : k < 20 ∨ 33 < k ∨ (20 < k ∧ k < 26) ∨ (27 < k ∧ k < 32)) : endI I w v sc 0 k = I 0 k := by
  unfold endI
  split
  · rw [up2_k (by omega), up2_k (by omega), up2_k (by omega), up2_k (by omega), up2_k (by omega)]
  · rw [up2_k (by omega), up2_k (by omega), up2_k (by omega)]
theorem s_begin (F : FLx X cL_law RL 7) (hR : RmL X) (hC : RmC X) (S : Scr X b L xs0) (hn : n + 5 < L) (T : TIE g I A J P O IC AC JC pl) (h1 : k1 ≤ potC n g (frT O)) (h2 : k2 ≤ potS n g (frT O)) (kc : KC X b ax ay ao n) : LA X ax ay ao (mS I A J) plM (mC P O IC AC JC) pl U k1 k2 (strt 11) (LB b ax ay ao (nI n)) [] := by
  obtain ⟨p1, p2⟩ := pot_le (n := n) (f := frT O) (by have := S.2.2.2; omega) T.g6
  obtain ⟨m, B, sz, Lv, p, hd, mt, τ, iv, eg, tb, tm, tt, tp, tl, ts, tr⟩ := id T
  have hc := hC.1
  have hs := hC.2.1
  have i100 : 100 ∈ pl := iv.2.1 _ (by decide)
  refine w_begin F hR S hn (h_begin (c_11_begin (xl X) hC.2.2 iv.1 IC AC JC iv.2.1 (xs0 (n + 1)) tr.2.2.1) i100 rfl (fun r σ' pl' h => h.2.1) (fun E σ' pl' h => h.1)) i100 (by omega) (by omega) ?_
  intro k σ' pl' U' hΘ _
  refine ⟨3, _, by decide, c_begin (xl X) I A J (xs0 (n + 1)), ?_⟩
  rcases hΘ with ⟨rfl, ⟨ha, -, rfl, R, rfl, hRr⟩, rfl⟩ | ⟨E, ⟨rfl, rfl, rfl, ha⟩, rfl, rfl⟩
  · rw [if_pos ha]
    rintro r σR plR ⟨rfl, rfl, rfl⟩
    refine ⟨_, _, _, rfl, rfl, rfl, rfl, kc _ _ _ _ _ _ _ _ (INV.mk (g := g) ⟨0, B00, sz, Lv, 0, hd, mt, (τ.1, 0, τ.2.2.1, τ.2.2.2.1, τ.2.2.2.2), iv.fr (fun q k hq => ?_) rfl, eg, ⟨by omega, ok00, rfl, rfl, bd00f _, bd00 hRr⟩, ⟨⟨(by decide : (0 : Int32) ≤ 1), (by decide : (1 : Int32) ≤ 6)⟩, rfl, rfl, rfl, rfl, rfl, rfl, rfl, rfl, fun z => absurd z (by decide : ¬ (1 : Int32) = 3), fun _ => ⟨rfl, rfl⟩, rfl, rfl, Or.inl rfl, rfl, rfl, rfl⟩, tt, tp, tl, ts.zero rfl rfl rfl, tr.zero rfl rfl rfl rfl rfl⟩ (pot_st h1 h2 (by decide) (by decide)))⟩
    unfold ogI diceI openI
    simp (disch := omega) only [up2_p]
  · rw [if_neg ha]
    rintro r σR plR ⟨rfl, rfl, rfl⟩
    exact ⟨_, _, _, rfl, rfl, rfl, rfl, kc _ _ _ _ _ _ _ _ (INV.mk (T.thr _) (pot_st h1 h2 (by decide) (by decide)))⟩
theorem s_next (F : FLx X cL_law RL 7) (hR : RmL X) (hC : RmC X) (S : Scr X b L xs0) (hn : n + 5 < L) (T : TIE g I A J P O IC AC JC pl) (h1 : k1 ≤ potC n g (frT O)) (h2 : k2 ≤ potS n g (frT O)) (kc : KC X b ax ay ao n) : LA X ax ay ao (mS I A J) plM (mC P O IC AC JC) pl U k1 k2 (strt 15) (LB b ax ay ao (nI n)) [] := by
  obtain ⟨p1, p2⟩ := pot_le (n := n) (f := frT O) (by have := S.2.2.2; omega) T.g6
  obtain ⟨m, B, sz, Lv, p, hd, mt, τ, iv, eg, tb, tm, tt, tp, tl, ts, tr⟩ := id T
  have hc := hC.1
  have hs := hC.2.1
  have i100 : 100 ∈ pl := iv.2.1 _ (by decide)
  obtain ⟨a0, a1, a2, a3, a4, a5, a6, a7, a8, a9, b0, b1, b2, b3, b4, b5, b6⟩ := id tm
  refine w_next F hR S hn (h_next (c_11_next (xl X) hC.2.2 iv.1 IC AC JC iv.2.1 (by rw [b2]; exact b3) tr.2.2.1) i100 rfl (fun r σ' pl' h => h.2.1) (fun E σ' pl' h => h.1)) i100 (by omega) (by omega) ?_
  intro k σ' pl' U' hΘ _
  refine ⟨3, _, by decide, c_next (xl X) I A J b3, ?_⟩
  rcases hΘ with ⟨rfl, ⟨ha, -, rfl, R, rfl, hRr⟩, rfl⟩ | ⟨E, ⟨rfl, rfl, rfl, ha⟩, rfl, rfl⟩
  · rw [if_pos (a1 ▸ ha)]
    rintro r σR plR ⟨rfl, rfl, rfl⟩
    refine ⟨_, _, _, rfl, rfl, rfl, rfl, kc _ _ _ _ _ _ _ _ (INV.mk (g := g) ⟨0, B00, sz, Lv, p, hd, mt, (τ.1, 0, τ.2.2.1, τ.2.2.2.1, τ.2.2.2.2), iv.fr (fun q k hq => ?_) rfl, eg, ⟨by omega, ok00, rfl, rfl, bd00f _, bd00 hRr⟩, ⟨⟨(by decide : (0 : Int32) ≤ 1), (by decide : (1 : Int32) ≤ 6)⟩, rfl, a2, rfl, rfl, congrArg (· + 1) a5, a6, a7, a8, fun z => absurd z (by decide : ¬ (1 : Int32) = 3), fun _ => ⟨rfl, rfl⟩, b2, rfl, Or.inl rfl, b4, b5, b6⟩, tt, tp, tl, ts.fr rfl rfl rfl rfl (fun q k hq => ?_) (fun q hq => up1_p (by omega)), tr.zero rfl rfl rfl rfl rfl⟩ (pot_st h1 h2 (by decide) (by decide)))⟩
    · unfold ogI diceI
      simp (disch := omega) only [up2_p]
    · unfold ogI diceI
      simp (disch := omega) only [up2_p]
  · rw [if_neg (fun z => ha (a1.trans z))]
    rintro r σR plR ⟨rfl, rfl, rfl⟩
    exact ⟨_, _, _, rfl, rfl, rfl, rfl, kc _ _ _ _ _ _ _ _ (INV.mk (T.thr _) (pot_st h1 h2 (by decide) (by decide)))⟩
theorem s_answer (F : FLx X cL_law RL 7) (hR : RmL X) (hC : RmC X) (S : Scr X b L xs0) (hn : n + 5 < L) (T : TIE g I A J P O IC AC JC pl) (h1 : k1 ≤ potC n g (frT O)) (h2 : k2 ≤ potS n g (frT O)) (kc : KC X b ax ay ao n) : LA X ax ay ao (mS I A J) plM (mC P O IC AC JC) pl U k1 k2 (strt 14) (LB b ax ay ao (nI n)) [] := by
  obtain ⟨p1, p2⟩ := pot_le (n := n) (f := frT O) (by have := S.2.2.2; omega) T.g6
  obtain ⟨m, B, sz, Lv, p, hd, mt, τ, iv, eg, tb, tm, tt, tp, tl, ts, tr⟩ := id T
  have hc := hC.1
  have hs := hC.2.1
  have i100 : 100 ∈ pl := iv.2.1 _ (by decide)
  obtain ⟨a0, a1, a2, a3, a4, a5, a6, a7, a8, a9, b0, b1, b2, b3, b4, b5, b6⟩ := id tm
  obtain ⟨c1, c2, c3, c4, c5, c6⟩ := id tb
  have h01 : (nI m = 0 ∨ nI m = 1) := by
    rcases (by omega : m = 0 ∨ m = 1) with rfl | rfl
    · exact Or.inl rfl
    · exact Or.inr rfl
  refine w_answer F hR S hn (h_answer (p0 := if xs0 (n + 1) = 0 then 0 else 1) (c_11_answer (xl X) hC.2.2 iv.1 IC AC JC iv.2.1 (if xs0 (n + 1) = 0 then 0 else 1) (by rw [c4]; exact h01)) i100 rfl (fun r σ' pl' h => by
    by_cases hz : (if xs0 (n + 1) = 0 then (0 : Int32) else 1) = 0
    · exact ⟨_, (h.2.1 hz).1⟩
    · exact ⟨_, (h.2.2 hz).1⟩) (fun E σ' pl' h => h.1)) i100 (by omega) (by omega) ?_
  intro k σ' pl' U' hΘ _
  generalize (if xs0 (n + 1) = 0 then (0 : Int32) else 1) = z at hΘ ⊢
  refine ⟨2, _, by decide, c_answer (xl X) I A J z (by rw [c3]; exact h01), ?_⟩
  rcases hΘ with ⟨rfl, v, ⟨ha, hz0, hz1⟩, rfl⟩ | ⟨E, ⟨rfl, rfl, rfl, ha⟩, rfl, rfl⟩
  · rw [a1] at ha
    rw [c4, a3, nI_clamp (by omega)] at hz0
    rw [c4, a3] at hz1
    unfold eCA at hz0
    rw [nI_clamp (by omega)] at hz0
    rw [if_pos ha]
    have hne : ¬ I 0 20 = 3 := by rw [ha]; decide
    by_cases hz : z = 0
    · rw [if_pos hz]
      obtain ⟨hv, rfl, rfl⟩ := hz0 hz
      cases hv
      have ev : overV (up2 I 0 0 0) A (I 0 2) 0 = I 0 22 := by
        show I 0 22 * 1 = I 0 22
        exact Int32.mul_one _
      unfold overI overA
      rw [ev]
      rw [c3, nI_clamp (by omega)]
      obtain ⟨q1, q2, q3⟩ := t_end (I := up2 I 0 0 0) (A := A) (IC := IC) (AC := AC) (show tMc (up2 I 0 0 0) A IC AC from tm.c) (b0 hne).1 (b0 hne).2 c1 (I 0 22)
      rintro r σR plR ⟨rfl, rfl, rfl⟩
      refine ⟨_, _, _, _, rfl, rfl, rfl, endI_k (by omega), fun _ => ?_, kc _ _ _ _ _ _ _ _ (INV.mk (g := g) ⟨m, B, sz, Lv, p, hd, mt, τ, iv.fr (fun q k hq => eCI_q (by omega)) rfl, eg, ⟨c1, c2, (endI_k (by omega)).trans c3, (eCI_q (by omega)).trans c4, c5, c6⟩, q1, ?_, ?_, ?_, ts.fr (endI_k (by omega)) rfl (eCI_q (by omega)) (eCI_q (by omega)) (fun q k hq => eCI_q (by omega)) (fun q hq => up1_p (by omega)), tr.fr (endI_k (by omega)) (endI_k (by omega)) (fun z => qSt.of ha (by decide)) rfl rfl rfl (eCI_q (by omega)) (eCI_q (by omega)) (eCI_q (by omega)) (fun q hq => up1_p (by omega))⟩ (pot_st h1 h2 (by decide) (by decide)))⟩
      · rw [q3]; rfl
      · obtain ⟨f1, f2, f3, f4, f5⟩ := tt
        exact ⟨f1, (endI_k (by omega)).trans f2, (eCI_q (by omega)).trans f3, f4, by rw [endI_k (by omega), eCI_q (by omega)]; exact f5⟩
      · obtain ⟨len, f1, f2, f3, f4⟩ := tp
        exact ⟨len, f1, (endI_k (by omega)).trans f2, (eCI_q (by omega)).trans f3, f4⟩
      · obtain ⟨⟨f1, f2, f3, f4⟩, f5, f6⟩ := tl
        refine ⟨⟨(endI_k (by omega)).trans f1, f2, ?_, f4⟩, f5, (eCI_q (by omega)).trans f6⟩
        rcases f3 with f3 | ⟨f3, f7⟩
        · exact Or.inl ((endI_k (by omega)).trans f3)
        · exact Or.inr ⟨(endI_k (by omega)).trans f3, f7⟩
    · rw [if_neg hz]
      obtain ⟨hv, rfl, rfl⟩ := hz1 hz
      cases hv
      rintro r σR plR ⟨rfl, rfl, rfl⟩
      refine ⟨_, _, _, _, rfl, rfl, rfl, rfl, fun _ => rfl, kc _ _ _ _ _ _ _ _ (INV.mk (g := g) ⟨m, B, sz, Lv, p, hd, mt, τ, iv.fr (fun q k hq => ?_) rfl, eg, tb, ⟨⟨(by decide : (0 : Int32) ≤ 2), (by decide : (2 : Int32) ≤ 6)⟩, rfl, a2, ?_, ?_, a5, a6, a7, a8, fun z => absurd z (by decide : ¬ (2 : Int32) = 3), fun _ => b0 hne, b1, b2, b3, b4, b5, b6⟩, tt, tp, tl, ts.fr rfl rfl rfl rfl (fun q k hq => ?_) (fun q hq => rfl), tr.fr rfl rfl (fun z => qSt.of ha (by decide)) rfl rfl rfl rfl rfl rfl (fun q hq => rfl)⟩ (pot_st h1 h2 (by decide) (by decide)))⟩
      · simp (disch := omega) only [up2_p]
      · exact Int32.mul_comm _ _
      · show 1 - nI m = 1 - I 0 2
        rw [c3]
      · simp (disch := omega) only [up2_p]
  · rw [a1] at ha
    rw [if_neg ha]
    rintro r σR plR ⟨rfl, rfl, rfl⟩
    refine ⟨_, _, _, _, rfl, rfl, rfl, rfl, ?_, kc _ _ _ _ _ _ _ _ (INV.mk (T.thr _) (pot_st h1 h2 (by decide) (by decide)))⟩
    intro z
    exact absurd z (by decide)
end