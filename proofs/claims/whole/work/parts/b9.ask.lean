/-! commands that ask -/
section
variable {X : Ctx} {b ax ay ao L n g k1 k2 : Nat} {xs0 : Nat → Int32} {I A : Nat → Nat → Int32} {J : Nat → Nat → Int64} {P O : Nat → Nat → Option Nat} {IC AC : Nat → Nat → Int32} {JC : Nat → Nat → Int64} {pl : List Nat} {U : Nat → Int64}
theorem t_row {m : Nat} {B : Nat → Nat} (tb : tBd m B I A IC AC) {k : Nat} (hk : k < 52) : AC 131 k = A 1 k := by
  have h1 := (tb.2.2.2.2.1 k hk).1
  have h2 := (tb.2.2.2.2.2 k hk).1
  rw [Nat.zero_add] at h1 h2
  rw [h1, h2]
theorem t_pips {m : Nat} {B : Nat → Nat} (tb : tBd m B I A IC AC) {a : Nat} (ha : a ≤ 1) : ∀ i, i ≤ 25 → pipsF (AC 131) a i = pipsF (A 1) a i := by
  intro i
  induction i with
  | zero => intro _; rfl
  | succ i ih =>
    intro hi
    show pipsF (AC 131) a i + nI (i + 1) * AC 131 (26 * a + (i + 1)) = pipsF (A 1) a i + nI (i + 1) * A 1 (26 * a + (i + 1))
    rw [ih (by omega), t_row tb (by omega)]
theorem t_und (tm : tMt I A IC AC) : undC IC ↔ (0 < I 0 20 ∧ I 0 20 < 6) := by
  have h0 := tm.1
  have h1 := tm.2.1
  unfold undC
  rw [h1]
  generalize I 0 20 = s at *
  constructor <;> intro h <;> grind
theorem t_ask {m sz Lv mt : Nat} {B : Nat → Nat} {τ : TB} (tb : tBd m B I A IC AC) (tt : tTp sz I A IC AC) (tp : tPg I A IC AC) (tl : tLv Lv I A J IC) (tr : tRs m mt τ I A P IC AC JC pl) {w : Int32} (h : 0 ≤ w ∧ w ≤ 7) : askC IC AC w = askF I A w := by
  obtain ⟨w, hw, rfl⟩ := nI_of2 (x := w) (M := 7) (n := 7) rfl (by grind) h.2
  obtain ⟨len, hl, e1, e2, -⟩ := tp
  have q1 : IC 130 1 = I 0 2 := by rw [tb.2.2.1, tb.2.2.2.1]
  have q2 : IC 120 1 = I 0 35 := by rw [tt.2.1, tt.2.2.1]
  have q3 : IC 122 1 = I 0 61 := by rw [e1, e2]
  have q4 : IC 110 7 = I 0 16 := by rw [tr.2.2.2.1, tr.2.2.1.2.2.2.2.2.1]
  have q5 : IC 100 10 = I 0 55 := by rw [tl.2.2, tl.1.1]
  have q6 := t_pips tb (a := 0) (by omega) 25 (by omega)
  have q7 := t_pips tb (a := 1) (by omega) 25 (by omega)
  have q8 := t_row tb (k := 0) (by omega)
  have q9 := t_row tb (k := 26) (by omega)
  have hz : w = 0 ∨ w = 1 ∨ w = 2 ∨ w = 3 ∨ w = 4 ∨ w = 5 ∨ w = 6 ∨ w = 7 := by omega
  rcases hz with rfl | rfl | rfl | rfl | rfl | rfl | rfl | rfl
  · exact q1
  · exact q6
  · exact q7
  · show (if AC 131 0 = 15 ∨ AC 131 26 = 15 then (1 : Int32) else 0) = if A 1 0 = 15 ∨ A 1 26 = 15 then 1 else 0
    rw [q8, q9]
  · exact q2
  · exact q3
  · exact q4
  · exact q5
theorem t_match (tm : tMt I A IC AC) {w : Int32} (h : 0 ≤ w ∧ w ≤ 11) : tellC IC AC w = matchF I A w := by
  obtain ⟨w, hw, rfl⟩ := nI_of2 (x := w) (M := 11) (n := 11) rfl (by grind) h.2
  obtain ⟨a0, a1, a2, a3, a4, a5, a6, a7, a8, a9, b0, b1, b2, b3, b4, b5, b6⟩ := tm
  have hz : w = 0 ∨ w = 1 ∨ w = 2 ∨ w = 3 ∨ w = 4 ∨ w = 5 ∨ w = 6 ∨ w = 7 ∨ w = 8 ∨ w = 9 ∨ w = 10 ∨ w = 11 := by omega
  rcases hz with rfl | rfl | rfl | rfl | rfl | rfl | rfl | rfl | rfl | rfl | rfl | rfl
  · exact a1
  · exact b5
  · exact b6
  · exact a3
  · exact a4
  · show (if IC 114 3 = 0 then (0 : Int32) else 1) = if I 0 31 = 0 then 0 else 1
    rw [b1]
  · exact a5
  · exact a6
  · exact a7
  · exact a8
  · show IC 114 10 = if I 0 20 = 3 then I 0 28 else 0
    by_cases z : I 0 20 = 3
    · rw [if_pos z]; exact (a9 z).1
    · rw [if_neg z]; exact (b0 z).1
  · show IC 114 11 = if I 0 20 = 3 then I 0 29 else 0
    by_cases z : I 0 20 = 3
    · rw [if_pos z]; exact (a9 z).2.1
    · rw [if_neg z]; exact (b0 z).2
theorem s_men (F : FLx X cL_law RL 7) (hR : RmL X) (hC : RmC X) (S : Scr X b L xs0) (hn : n + 5 < L) (T : TIE g I A J P O IC AC JC pl) (h1 : k1 ≤ potC n g (frT O)) (h2 : k2 ≤ potS n g (frT O)) (kc : KC X b ax ay ao n) : LA X ax ay ao (mS I A J) plM (mC P O IC AC JC) pl U k1 k2 (strt 3) (LB b ax ay ao (nI n)) [] := by
  obtain ⟨p1, p2⟩ := pot_le (n := n) (f := frT O) (by have := S.2.2.2; omega) T.g6
  obtain ⟨m, B, sz, Lv, p, hd, mt, τ, iv, eg, tb, tm, tt, tp, tl, ts, tr⟩ := id T
  have hc := hC.1
  have hs := hC.2.1
  have i100 : 100 ∈ pl := iv.2.1 _ (by decide)
  refine w_men F hR S hn (h_men (c_11_men (xl X) hC.2.2 iv.1 IC AC JC iv.2.1 (xs0 (n + 1)) (xs0 (n + 2))) i100 rfl (fun r σ' pl' h => ⟨_, h.2.1⟩) (fun E σ' pl' h => h.1)) i100 (by omega) (by omega) ?_
  intro k σ' pl' U' hΘ _
  refine ⟨2, _, by decide, c_men (xl X) I A J (xs0 (n + 1)) (xs0 (n + 2)), ?_⟩
  rintro r σR plR ⟨rfl, rfl, rfl⟩
  rcases hΘ with ⟨rfl, v, ⟨ha, hv, rfl, rfl⟩, rfl⟩ | ⟨E, ⟨rfl, rfl, rfl, ha⟩, rfl, rfl⟩
  · cases hv
    refine ⟨_, _, _, _, rfl, rfl, rfl, ?_, ?_, kc _ _ _ _ _ _ _ _ (INV.mk (T.thr _) (pot_st h1 h2 (by decide) (by decide)))⟩
    · show (if 0 ≤ xs0 (n + 1) ∧ xs0 (n + 1) ≤ 1 ∧ 0 ≤ xs0 (n + 2) ∧ xs0 (n + 2) ≤ 25 then (0 : Int32) else 1) = 0
      rw [if_pos ⟨ha.1.1, ha.1.2, ha.2.1, ha.2.2⟩]
    · intro _
      rw [if_pos ⟨ha.1.1, ha.1.2, ha.2.1, ha.2.2⟩, ← t_row tb (k := (26 * xs0 (n + 1) + xs0 (n + 2)).toNatClampNeg) (Nat.not_le.mp (fun q => (in_i (N := 52) (n := 52) rfl (by obtain ⟨⟨_, _⟩, _, _⟩ := ha; constructor <;> grind) : vp_in (26 * xs0 (n + 1) + xs0 (n + 2)) 52) (Or.inr q))), Int32.mul_comm]
      rfl
  · refine ⟨_, _, _, _, rfl, rfl, rfl, ?_, ?_, kc _ _ _ _ _ _ _ _ (INV.mk (T.thr _) (pot_st h1 h2 (by decide) (by decide)))⟩
    · show (if 0 ≤ xs0 (n + 1) ∧ xs0 (n + 1) ≤ 1 ∧ 0 ≤ xs0 (n + 2) ∧ xs0 (n + 2) ≤ 25 then (0 : Int32) else 1) = 1
      rw [if_neg (fun z => ha ⟨⟨z.1, z.2.1⟩, z.2.2⟩)]
    · intro z
      exact absurd z (by decide)
theorem s_ask (F : FLx X cL_law RL 7) (hR : RmL X) (hC : RmC X) (S : Scr X b L xs0) (hn : n + 5 < L) (T : TIE g I A J P O IC AC JC pl) (h1 : k1 ≤ potC n g (frT O)) (h2 : k2 ≤ potS n g (frT O)) (kc : KC X b ax ay ao n) : LA X ax ay ao (mS I A J) plM (mC P O IC AC JC) pl U k1 k2 (strt 4) (LB b ax ay ao (nI n)) [] := by
  obtain ⟨p1, p2⟩ := pot_le (n := n) (f := frT O) (by have := S.2.2.2; omega) T.g6
  obtain ⟨m, B, sz, Lv, p, hd, mt, τ, iv, eg, tb, tm, tt, tp, tl, ts, tr⟩ := id T
  have hc := hC.1
  have hs := hC.2.1
  have i100 : 100 ∈ pl := iv.2.1 _ (by decide)
  refine w_ask F hR S hn (h_ask (c_11_ask (xl X) hC.2.2 iv.1 IC AC JC iv.2.1 (xs0 (n + 1))) i100 rfl (fun r σ' pl' h => ⟨_, h.2.1⟩) (fun E σ' pl' h => h.1)) i100 (by omega) (by omega) ?_
  intro k σ' pl' U' hΘ _
  refine ⟨2, _, by decide, c_ask (xl X) I A J (xs0 (n + 1)), ?_⟩
  rintro r σR plR ⟨rfl, rfl, rfl⟩
  rcases hΘ with ⟨rfl, v, ⟨ha, hv, rfl, rfl⟩, rfl⟩ | ⟨E, ⟨rfl, rfl, rfl, ha⟩, rfl, rfl⟩
  · cases hv
    refine ⟨_, _, _, _, rfl, rfl, rfl, ?_, ?_, kc _ _ _ _ _ _ _ _ (INV.mk (T.thr _) (pot_st h1 h2 (by decide) (by decide)))⟩
    · show (if 0 ≤ xs0 (n + 1) ∧ xs0 (n + 1) ≤ 7 then (0 : Int32) else 1) = 0
      rw [if_pos ha]
    · intro _
      rw [if_pos ha, ← t_ask tb tt tp tl tr ha]
      rfl
  · refine ⟨_, _, _, _, rfl, rfl, rfl, ?_, ?_, kc _ _ _ _ _ _ _ _ (INV.mk (T.thr _) (pot_st h1 h2 (by decide) (by decide)))⟩
    · show (if 0 ≤ xs0 (n + 1) ∧ xs0 (n + 1) ≤ 7 then (0 : Int32) else 1) = 1
      rw [if_neg ha]
    · intro z
      exact absurd z (by decide)
theorem s_match (F : FLx X cL_law RL 7) (hR : RmL X) (hC : RmC X) (S : Scr X b L xs0) (hn : n + 5 < L) (T : TIE g I A J P O IC AC JC pl) (h1 : k1 ≤ potC n g (frT O)) (h2 : k2 ≤ potS n g (frT O)) (kc : KC X b ax ay ao n) : LA X ax ay ao (mS I A J) plM (mC P O IC AC JC) pl U k1 k2 (strt 16) (LB b ax ay ao (nI n)) [] := by
  obtain ⟨p1, p2⟩ := pot_le (n := n) (f := frT O) (by have := S.2.2.2; omega) T.g6
  obtain ⟨m, B, sz, Lv, p, hd, mt, τ, iv, eg, tb, tm, tt, tp, tl, ts, tr⟩ := id T
  have hc := hC.1
  have hs := hC.2.1
  have i100 : 100 ∈ pl := iv.2.1 _ (by decide)
  refine w_match F hR S hn (h_match (c_11_match (xl X) hC.2.2 iv.1 IC AC JC iv.2.1 (xs0 (n + 1))) i100 rfl (fun r σ' pl' h => ⟨_, h.2.1⟩) (fun E σ' pl' h => h.1)) i100 (by omega) (by omega) ?_
  intro k σ' pl' U' hΘ _
  refine ⟨2, _, by decide, c_match (xl X) I A J (xs0 (n + 1)), ?_⟩
  rintro r σR plR ⟨rfl, rfl, rfl⟩
  rcases hΘ with ⟨rfl, v, ⟨ha, hv, rfl, rfl⟩, rfl⟩ | ⟨E, ⟨rfl, rfl, rfl, ha⟩, rfl, rfl⟩
  · cases hv
    refine ⟨_, _, _, _, rfl, rfl, rfl, ?_, ?_, kc _ _ _ _ _ _ _ _ (INV.mk (T.thr _) (pot_st h1 h2 (by decide) (by decide)))⟩
    · show (if 0 ≤ xs0 (n + 1) ∧ xs0 (n + 1) ≤ 11 then (0 : Int32) else 1) = 0
      rw [if_pos ha]
    · intro _
      rw [if_pos ha, ← t_match tm ha]
      rfl
  · refine ⟨_, _, _, _, rfl, rfl, rfl, ?_, ?_, kc _ _ _ _ _ _ _ _ (INV.mk (T.thr _) (pot_st h1 h2 (by decide) (by decide)))⟩
    · show (if 0 ≤ xs0 (n + 1) ∧ xs0 (n + 1) ≤ 11 then (0 : Int32) else 1) = 1
      rw [if_neg ha]
    · intro z
      exact absurd z (by decide)
theorem s_octet (F : FLx X cL_law RL 7) (hR : RmL X) (hC : RmC X) (S : Scr X b L xs0) (hn : n + 5 < L) (T : TIE g I A J P O IC AC JC pl) (h1 : k1 ≤ potC n g (frT O)) (h2 : k2 ≤ potS n g (frT O)) (kc : KC X b ax ay ao n) : LA X ax ay ao (mS I A J) plM (mC P O IC AC JC) pl U k1 k2 (strt 22) (LB b ax ay ao (nI n)) [] := by
  obtain ⟨p1, p2⟩ := pot_le (n := n) (f := frT O) (by have := S.2.2.2; omega) T.g6
  obtain ⟨m, B, sz, Lv, p, hd, mt, τ, iv, eg, tb, tm, tt, tp, tl, ts, tr⟩ := id T
  have hc := hC.1
  have hs := hC.2.1
  have i100 : 100 ∈ pl := iv.2.1 _ (by decide)
  obtain ⟨len, hl, e1, e2, e3⟩ := tp
  have n400 : nI len ≤ 400 := (nI_len (k := len) 400 (by omega) (by omega)).mpr hl
  refine w_octet F hR S hn (c_11_octet (xl X) hC.2.2 iv.1 IC AC JC iv.2.1 (xs0 (n + 1)) (by show IC 122 1 ≤ 400; rw [e2]; exact n400)) i100 rfl (by omega) (by omega) (fun r σ' pl' h => ⟨_, h.1⟩) ?_
  intro v σ' pl' h _
  obtain ⟨h1', rfl, rfl⟩ := h
  cases h1'
  refine ⟨2, _, by decide, c_octet (xl X) I A J (xs0 (n + 1)) (by rw [e1]; exact n400), ?_⟩
  rintro r σR plR ⟨rfl, rfl, rfl⟩
  refine ⟨_, _, _, ?_, rfl, rfl, kc _ _ _ _ _ _ _ _ (INV.mk (T.thr 0) (pot_st h1 h2 (by decide) (by decide)))⟩
  generalize xs0 (n + 1) = x
  unfold atI
  rw [e1, e2]
  by_cases hx : x < 0
  · rw [if_neg (fun z => by grind), if_pos hx]
  · rw [if_neg hx]
    by_cases hy : x < nI len
    · have h0 : 0 ≤ x := by grind
      rw [if_pos ⟨h0, hy⟩, if_pos hy]
      have : x.toNatClampNeg < len := by
        obtain ⟨q, hq, rfl⟩ := nI_of2 (x := x) (M := nI len) (n := len) (nI_toInt (by omega)) hx (by grind)
        rw [nI_clamp (by omega)]
        exact (nI_ltI (by omega) (by omega)).mp hy
      rw [e3 _ this]
    · rw [if_neg (fun z => hy z.2), if_neg hy]
end