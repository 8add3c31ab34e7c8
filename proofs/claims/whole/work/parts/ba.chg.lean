/-! commands that change the match, the tape, the level -/
section
variable {X : Ctx} {b ax ay ao L n g k1 k2 : Nat} {xs0 : Nat → Int32} {I A : Nat → Nat → Int32} {J : Nat → Nat → Int64} {P O : Nat → Nat → Option Nat} {IC AC : Nat → Nat → Int32} {JC : Nat → Nat → Int64} {pl : List Nat} {U : Nat → Int64} {I' A' IC' AC' : Nat → Nat → Int32} {O' : Nat → Nat → Option Nat}
theorem invC.fr (h : invC P O IC AC JC pl g) (hI : ∀ q k, 150 ≤ q → IC' q k = IC q k) (hA : AC' 118 = AC 118) : invC P O IC' AC' JC pl g := by
  obtain ⟨a1, a2, a3, a4, a5, a6, a7, a8, a9, b1, b2, b3, b4⟩ := h
  exact ⟨a1, a2, a3, a4, a5, a6, fun k => by funext j; rw [hI _ _ (by omega), a7 k], by rw [hA]; exact a8, a9, b1, b2, b3, b4⟩
theorem tPs.fr {p hd : Nat} (h : tPs p hd I A O IC AC) (e1 : I' 0 19 = I 0 19) (e2 : A' 18 = A 18) (h1 : IC' 102 1 = IC 102 1) (h2 : IC' 102 2 = IC 102 2) (hI : ∀ q k, 150 ≤ q → IC' q k = IC q k) (hA : ∀ q, 134 ≤ q → AC' q = AC q) : tPs p hd I' A' O IC' AC' := by
  obtain ⟨a1, a2, a3, a4, a5, a6⟩ := h
  refine ⟨a1, a2, by rw [e1]; exact a3, by rw [h1]; exact a4, by rw [h2]; exact a5, fun j hj => ?_⟩
  obtain ⟨b0, m', B', b1, b2, b3, b4, b5, b6⟩ := a6 j hj
  exact ⟨b0, m', B', b1, b2, by rw [hA _ (by omega)]; exact b3, by rw [hI _ _ (by omega)]; exact b4, by rw [e2]; exact b5, by rw [e2]; exact b6⟩
theorem tPs.zero {p hd : Nat} (h : tPs p hd I A O IC AC) (e1 : I' 0 19 = 0) (h1 : IC' 102 1 = IC 102 1) (h2 : IC' 102 2 = 0) : tPs 0 hd I' A' O IC' AC' := by
  obtain ⟨a1, a2, a3, a4, a5, a6⟩ := h
  exact ⟨Nat.zero_le _, a2, e1, by rw [h1]; exact a4, h2, fun j hj => absurd hj (Nat.not_lt_zero _)⟩
theorem tbS.fr {mt : Nat} {τ : TB} (h : tbS P IC AC JC pl mt τ) (h5 : IC' 110 5 = IC 110 5) (h6 : IC' 110 6 = IC 110 6) (h7 : IC' 110 7 = IC 110 7) (hA : ∀ q, 134 ≤ q → AC' q = AC q) : tbS P IC' AC' JC pl mt τ := by
  obtain ⟨a1, a2, a3, a4, a5, a6, a7, a8, o, a9⟩ := h
  exact ⟨a1, a2, a3, by rw [h5]; exact a4, by rw [h6]; exact a5, by rw [h7]; exact a6, a7, a8, o, by rw [hA _ (by omega)]; exact a9⟩
theorem tRs.fr {m mt : Nat} {τ : TB} (h : tRs m mt τ I A P IC AC JC pl) (e16 : I' 0 16 = I 0 16) (e17 : I' 0 17 = I 0 17) (e20 : qSt I' → qSt I) (e13 : A' 13 = A 13) (e14 : A' 14 = A 14) (e15 : A' 15 = A 15) (h5 : IC' 110 5 = IC 110 5) (h6 : IC' 110 6 = IC 110 6) (h7 : IC' 110 7 = IC 110 7) (hA : ∀ q, 134 ≤ q → AC' q = AC q) : tRs m mt τ I' A' P IC' AC' JC pl := by
  obtain ⟨a1, a2, a3, a4, a5, a6⟩ := h
  exact ⟨a1, ⟨a2.1, fun z => a2.2 (e20 z)⟩, a3.fr h5 h6 h7 hA, by rw [e16]; exact a4, by rw [e17]; exact a5, by rw [e13, e14, e15, e17]; exact a6⟩
theorem tbS.zero {mt : Nat} {τ : TB} (h : tbS P IC AC JC pl mt τ) (h5 : IC' 110 5 = IC 110 5) (h6 : IC' 110 6 = IC 110 6) (h7 : IC' 110 7 = 0) : tbS P IC' AC' JC pl mt (τ.1, 0, τ.2.2.1, τ.2.2.2.1, τ.2.2.2.2) := by
  obtain ⟨a1, a2, a3, a4, a5, a6, a7, a8, o, a9⟩ := h
  exact ⟨a1, a2, a3, by rw [h5]; exact a4, by rw [h6]; exact a5, h7, Nat.zero_le _, fun i j _ hj => absurd hj (Nat.not_lt_zero _), o, fun i hi => absurd hi (Nat.not_lt_zero _), fun i j hi => absurd hi (Nat.not_lt_zero _), fun i hi => absurd hi (Nat.not_lt_zero _), fun i hi => absurd hi (Nat.not_lt_zero _)⟩
theorem tRs.zero {m m' mt : Nat} {τ : TB} (h : tRs m mt τ I A P IC AC JC pl) (e16 : I' 0 16 = 0) (e17 : I' 0 17 = I 0 17) (h5 : IC' 110 5 = IC 110 5) (h6 : IC' 110 6 = IC 110 6) (h7 : IC' 110 7 = 0) : tRs m' mt (τ.1, 0, τ.2.2.1, τ.2.2.2.1, τ.2.2.2.2) I' A' P IC' AC' JC pl := by
  obtain ⟨a1, a2, a3, a4, a5, a6⟩ := h
  exact ⟨a1, ⟨fun z => absurd rfl z, fun _ => rfl⟩, a3.zero h5 h6 h7, e16, by rw [e17]; exact a5, fun i hi => absurd hi (Nat.not_lt_zero _)⟩
theorem b255 : ∀ i, i < 32 → 8 ≤ i → (255#32).getLsbD i = false := by decide
theorem sh_bv (x : BitVec 32) {n : Nat} (hn : n ≤ 24) : x.sshiftRight n &&& 255#32 = x >>> n &&& 255#32 := by
  apply BitVec.eq_of_getLsbD_eq
  intro i hi
  rw [BitVec.getLsbD_and, BitVec.getLsbD_and]
  by_cases h8 : i < 8
  · rw [BitVec.getLsbD_sshiftRight, BitVec.getLsbD_ushiftRight, if_pos (by omega)]
    rw [show decide (32 ≤ i) = false from decide_eq_false (by omega)]
    rfl
  · rw [b255 i hi (by omega), Bool.and_false, Bool.and_false]
theorem sh_24 (x : Int32) : (x >>> ((24 : Int32) &&& 31)) &&& 255 = ((x.toUInt32 >>> ((24 : Int32).toUInt32 &&& Int32.toUInt32 31)).toInt32) &&& 255 := Int32.toBitVec_inj.mp (sh_bv x.toBitVec (n := 24) (by decide))
theorem sh_16 (x : Int32) : (x >>> ((16 : Int32) &&& 31)) &&& 255 = ((x.toUInt32 >>> ((16 : Int32).toUInt32 &&& Int32.toUInt32 31)).toInt32) &&& 255 := Int32.toBitVec_inj.mp (sh_bv x.toBitVec (n := 16) (by decide))
theorem sh_8 (x : Int32) : (x >>> ((8 : Int32) &&& 31)) &&& 255 = ((x.toUInt32 >>> ((8 : Int32).toUInt32 &&& Int32.toUInt32 31)).toInt32) &&& 255 := Int32.toBitVec_inj.mp (sh_bv x.toBitVec (n := 8) (by decide))
theorem sh_00 (x : Int32) : x >>> ((0 : Int32) &&& 31) = x := by
  apply Int32.toBitVec_inj.mp
  show x.toBitVec.sshiftRight 0 = x.toBitVec
  simp
theorem feed_e (a b c d e : Int32) : ∀ k, k < 20 → feedB a b c d e k = feedC a b c d e k := by
  intro k hk
  have hz : k = 0 ∨ k = 1 ∨ k = 2 ∨ k = 3 ∨ k = 4 ∨ k = 5 ∨ k = 6 ∨ k = 7 ∨ k = 8 ∨ k = 9 ∨ k = 10 ∨ k = 11 ∨ k = 12 ∨ k = 13 ∨ k = 14 ∨ k = 15 ∨ k = 16 ∨ k = 17 ∨ k = 18 ∨ k = 19 := by omega
  rcases hz with rfl | rfl | rfl | rfl | rfl | rfl | rfl | rfl | rfl | rfl | rfl | rfl | rfl | rfl | rfl | rfl | rfl | rfl | rfl | rfl
  · exact sh_24 a
  · exact sh_16 a
  · exact sh_8 a
  · exact congrArg (· &&& 255) (sh_00 a)
  · exact sh_24 b
  · exact sh_16 b
  · exact sh_8 b
  · exact congrArg (· &&& 255) (sh_00 b)
  · exact sh_24 c
  · exact sh_16 c
  · exact sh_8 c
  · exact congrArg (· &&& 255) (sh_00 c)
  · exact sh_24 d
  · exact sh_16 d
  · exact sh_8 d
  · exact congrArg (· &&& 255) (sh_00 d)
  · exact sh_24 e
  · exact sh_16 e
  · exact sh_8 e
  · exact congrArg (· &&& 255) (sh_00 e)
theorem feed_s (f : Nat → Int32) (t : Nat) (a b c d e : Int32) : segF f t 20 (feedB a b c d e) = segF f t 20 (feedC a b c d e) := by
  funext k
  unfold segF
  by_cases h : t ≤ k ∧ k < t + 20
  · rw [if_pos h, if_pos h, feed_e _ _ _ _ _ _ (by omega)]
  · rw [if_neg h, if_neg h]
theorem s_feed (F : FLx X cL_law RL 7) (hR : RmL X) (hC : RmC X) (S : Scr X b L xs0) (hn : n + 5 < L) (T : TIE g I A J P O IC AC JC pl) (h1 : k1 ≤ potC n g (frT O)) (h2 : k2 ≤ potS n g (frT O)) (kc : KC X b ax ay ao n) : LA X ax ay ao (mS I A J) plM (mC P O IC AC JC) pl U k1 k2 (strt 0) (LB b ax ay ao (nI n)) [] := by
  obtain ⟨p1, p2⟩ := pot_le (n := n) (f := frT O) (by have := S.2.2.2; omega) T.g6
  obtain ⟨m, B, sz, Lv, p, hd, mt, τ, iv, eg, tb, tm, tt, tp, tl, ts, tr⟩ := id T
  have hc := hC.1
  have hs := hC.2.1
  have i100 : 100 ∈ pl := iv.2.1 _ (by decide)
  obtain ⟨hsz, e1, e2, e3, e4⟩ := tt
  refine w_feed F hR S hn (c_11_feed (xl X) hC.2.2 iv.1 IC AC JC iv.2.1 (xs0 (n + 1)) (xs0 (n + 2)) (xs0 (n + 3)) (xs0 (n + 4)) (xs0 (n + 5)) sz hsz e2) i100 rfl (by omega) (by omega) (fun r σ' pl' h => by rcases h with h | h <;> exact ⟨_, h.2.1⟩) ?_
  intro v σ' pl' h _
  refine ⟨1, _, by decide, c_feed (xl X) I A J (xs0 (n + 1)) (xs0 (n + 2)) (xs0 (n + 3)) (xs0 (n + 4)) (xs0 (n + 5)) sz hsz e1, ?_⟩
  rcases h with ⟨hq, hv, rfl, rfl⟩ | ⟨hq, hv, rfl, rfl⟩
  · cases hv
    rw [if_pos hq]
    rintro r σR plR ⟨rfl, rfl, rfl⟩
    refine ⟨_, _, _, rfl, rfl, rfl, kc _ _ _ _ _ _ _ _ (INV.mk (g := g) ⟨m, B, sz + 20, Lv, p, hd, mt, τ, iv.fr (fun q k hq => up2_p (by omega)) rfl, eg, tb, tm, ⟨hq, rfl, rfl, ?_, e4⟩, tp, tl, ts.fr rfl rfl rfl rfl (fun q k hq => up2_p (by omega)) (fun q hq => up1_p (by omega)), tr.fr rfl rfl id rfl rfl rfl rfl rfl rfl (fun q hq => up1_p (by omega))⟩ (pot_st h1 h2 (by decide) (by decide)))⟩
    show segF (A 34) sz 20 _ = segF (AC 121) sz 20 _
    rw [feed_s, e3]
  · cases hv
    rw [if_neg hq]
    rintro r σR plR ⟨rfl, rfl, rfl⟩
    exact ⟨_, _, _, rfl, rfl, rfl, kc _ _ _ _ _ _ _ _ (INV.mk (T.thr 0) (pot_st h1 h2 (by decide) (by decide)))⟩
theorem s_offer (F : FLx X cL_law RL 7) (hR : RmL X) (hC : RmC X) (S : Scr X b L xs0) (hn : n + 5 < L) (T : TIE g I A J P O IC AC JC pl) (h1 : k1 ≤ potC n g (frT O)) (h2 : k2 ≤ potS n g (frT O)) (kc : KC X b ax ay ao n) : LA X ax ay ao (mS I A J) plM (mC P O IC AC JC) pl U k1 k2 (strt 13) (LB b ax ay ao (nI n)) [] := by
  obtain ⟨p1, p2⟩ := pot_le (n := n) (f := frT O) (by have := S.2.2.2; omega) T.g6
  obtain ⟨m, B, sz, Lv, p, hd, mt, τ, iv, eg, tb, tm, tt, tp, tl, ts, tr⟩ := id T
  have hc := hC.1
  have hs := hC.2.1
  have i100 : 100 ∈ pl := iv.2.1 _ (by decide)
  have hde : dblC IC (IC 130 1) ↔ (I 0 20 = 2 ∧ (I 0 23 = -1 ∨ I 0 23 = I 0 2) ∧ I 0 22 < 64 ∧ I 0 31 = 0) := by
    unfold dblC
    rw [tm.2.1, tm.2.2.2.2.1, tm.2.2.2.1, tm.2.2.2.2.2.2.2.2.2.2.2.1, tb.2.2.1, tb.2.2.2.1]
    constructor <;> intro ⟨a1, a2, a3, a4⟩ <;> exact ⟨a1, a2, by grind, a4⟩
  refine w_offer F hR S hn (h_offer (c_11_offer (xl X) hC.2.2 iv.1 IC AC JC iv.2.1) i100 rfl (fun r σ' pl' h => ⟨_, h.2.1⟩) (fun E σ' pl' h => h.1)) i100 (by omega) (by omega) ?_
  intro k σ' pl' U' hΘ _
  refine ⟨2, _, by decide, c_offer (xl X) I A J, ?_⟩
  rcases hΘ with ⟨rfl, v, ⟨ha, hv, rfl, rfl⟩, rfl⟩ | ⟨E, ⟨rfl, rfl, rfl, ha⟩, rfl, rfl⟩
  · cases hv
    rw [if_pos (hde.mp ha)]
    rintro r σR plR ⟨rfl, rfl, rfl⟩
    obtain ⟨a0, a1, a2, a3, a4, a5, a6, a7, a8, a9, b0, b1, b2, b3, b4, b5, b6⟩ := tm
    have hne : ¬ I 0 20 = 3 := by rw [(hde.mp ha).1]; decide
    refine ⟨_, _, _, _, rfl, rfl, rfl, rfl, ?_, kc _ _ _ _ _ _ _ _ (INV.mk (g := g) ⟨m, B, sz, Lv, p, hd, mt, τ, iv.fr (fun q k hq => up2_p (by omega)) rfl, eg, tb, ⟨⟨(by decide : (0 : Int32) ≤ 4), (by decide : (4 : Int32) ≤ 6)⟩, rfl, a2, a3, a4, a5, a6, a7, a8, fun z => absurd z (by decide : ¬ (4 : Int32) = 3), fun _ => b0 hne, b1, b2, b3, b4, b5, b6⟩, tt, tp, tl, ts.fr rfl rfl rfl rfl (fun q k hq => up2_p (by omega)) (fun q hq => rfl), tr.fr rfl rfl (fun z => qSt.of (hde.mp ha).1 (by decide)) rfl rfl rfl rfl rfl rfl (fun q hq => rfl)⟩ (pot_st h1 h2 (by decide) (by decide)))⟩
    intro _
    rw [a3]
    rfl
  · rw [if_neg (fun z => ha (hde.mpr z))]
    rintro r σR plR ⟨rfl, rfl, rfl⟩
    refine ⟨_, _, _, _, rfl, rfl, rfl, rfl, ?_, kc _ _ _ _ _ _ _ _ (INV.mk (T.thr _) (pot_st h1 h2 (by decide) (by decide)))⟩
    intro z
    exact absurd z (by decide)
theorem s_learn (F : FLx X cL_law RL 7) (hR : RmL X) (hC : RmC X) (S : Scr X b L xs0) (hn : n + 5 < L) (T : TIE g I A J P O IC AC JC pl) (h1 : k1 ≤ potC n g (frT O)) (h2 : k2 ≤ potS n g (frT O)) (kc : KC X b ax ay ao n) : LA X ax ay ao (mS I A J) plM (mC P O IC AC JC) pl U k1 k2 (strt 17) (LB b ax ay ao (nI n)) [] := by
  obtain ⟨p1, p2⟩ := pot_le (n := n) (f := frT O) (by have := S.2.2.2; omega) T.g6
  obtain ⟨m, B, sz, Lv, p, hd, mt, τ, iv, eg, tb, tm, tt, tp, tl, ts, tr⟩ := id T
  have hc := hC.1
  have hs := hC.2.1
  have i100 : 100 ∈ pl := iv.2.1 _ (by decide)
  refine w_learn F hR S hn (h_learn (c_11_learn (xl X) hC.2.2 iv.1 IC AC JC iv.2.1 Lv tl.1.2.1 tl.2.2) i100 rfl (fun r σ' pl' h => ⟨_, h.2.1⟩) (fun E σ' pl' h => h.1)) i100 (by omega) (by omega) ?_
  intro k σ' pl' U' hΘ _
  refine ⟨5, _, by decide, c_learn (xl X) I A J Lv tl.1, ?_⟩
  intro r σR plR hΦ
  rcases hΘ with ⟨rfl, v, ⟨ha, hv, rfl, rfl⟩, rfl⟩ | ⟨E, ⟨rfl, rfl, rfl, ha⟩, rfl, rfl⟩
  · cases hv
    obtain ⟨I2, A2, rfl, rfl, rfl, f0, f1, f2, f3⟩ := hΦ.2 ha
    refine ⟨_, _, _, _, rfl, rfl, rfl, f0, fun _ => rfl, kc _ _ _ _ _ _ _ _ (INV.mk (g := g) ⟨m, B, sz, Lv + 1, p, hd, mt, τ, iv.fr (fun q k hq => up2_p (by omega)) rfl, eg, ?_, ?_, ?_, ?_, ⟨f1, tl.2.1, rfl⟩, ts.fr (f2 _ (by decide) (by decide) (by decide) (by decide)) (f3 _ (by decide) (by decide) (by decide) (by decide) (by decide) (by decide) (by decide)) rfl rfl (fun q k hq => up2_p (by omega)) (fun q hq => rfl), ?_⟩ (pot_st h1 h2 (by decide) (by decide)))⟩
    · obtain ⟨c1, c2, c3, c4, c5, c6⟩ := tb
      exact ⟨c1, c2, by rw [f2 2 (by decide) (by decide) (by decide) (by decide)]; exact c3, c4, by rw [f3 1 (by decide) (by decide) (by decide) (by decide) (by decide) (by decide) (by decide)]; exact c5, c6⟩
    · have z : ∀ k, k < 40 → k ≠ 0 → I2 0 k = I 0 k := fun k h h' => f2 k h' (by omega) (by omega) (by omega)
      unfold tMt at tm ⊢
      rw [z 20 (by decide) (by decide), z 21 (by decide) (by decide), z 22 (by decide) (by decide), z 23 (by decide) (by decide), z 24 (by decide) (by decide), z 25 (by decide) (by decide), z 26 (by decide) (by decide), z 27 (by decide) (by decide), z 28 (by decide) (by decide), z 29 (by decide) (by decide), z 31 (by decide) (by decide), z 32 (by decide) (by decide), z 33 (by decide) (by decide), f3 30 (by decide) (by decide) (by decide) (by decide) (by decide) (by decide) (by decide)]
      exact tm
    · obtain ⟨c1, c2, c3, c4, c5⟩ := tt
      exact ⟨c1, by rw [f2 35 (by decide) (by decide) (by decide) (by decide)]; exact c2, c3, by rw [f3 34 (by decide) (by decide) (by decide) (by decide) (by decide) (by decide) (by decide)]; exact c4, by rw [f2 42 (by decide) (by decide) (by decide) (by decide)]; exact c5⟩
    · obtain ⟨len, c1, c2, c3, c4⟩ := tp
      exact ⟨len, c1, by rw [f2 61 (by decide) (by decide) (by decide) (by decide)]; exact c2, c3, by rw [f3 59 (by decide) (by decide) (by decide) (by decide) (by decide) (by decide) (by decide)]; exact c4⟩
    · exact tr.fr (f2 _ (by decide) (by decide) (by decide) (by decide)) (f2 _ (by decide) (by decide) (by decide) (by decide)) (fun z => qSt.of (f2 20 (by decide) (by decide) (by decide) (by decide)).symm z) (f3 _ (by decide) (by decide) (by decide) (by decide) (by decide) (by decide) (by decide)) (f3 _ (by decide) (by decide) (by decide) (by decide) (by decide) (by decide) (by decide)) (f3 _ (by decide) (by decide) (by decide) (by decide) (by decide) (by decide) (by decide)) rfl rfl rfl (fun q hq => rfl)
  · obtain ⟨rfl, rfl, rfl⟩ := hΦ.1 (by omega)
    refine ⟨_, _, _, _, rfl, rfl, rfl, rfl, ?_, kc _ _ _ _ _ _ _ _ (INV.mk (T.thr _) (pot_st h1 h2 (by decide) (by decide)))⟩
    intro z
    exact absurd z (by decide)
end