/-! position -/
section
variable {X : Ctx} {b ax ay ao L n g k1 k2 : Nat} {xs0 : Nat → Int32} {I A : Nat → Nat → Int32} {J : Nat → Nat → Int64} {P O : Nat → Nat → Option Nat} {IC AC : Nat → Nat → Int32} {JC : Nat → Nat → Int64} {pl : List Nat} {U : Nat → Int64} {I' A' IC' AC' I2 A2 : Nat → Nat → Int32} {O2 : Nat → Nat → Option Nat} {JC' J' : Nat → Nat → Int64} {pl' : List Nat}
theorem tMt.cg (h : tMt I A IC AC) (hI : ∀ k, 19 < k → k < 34 → I' 0 k = I 0 k) (hC : ∀ k, IC' 114 k = IC 114 k) (hA : A' 30 = A 30) (hB : AC' 115 = AC 115) : tMt I' A' IC' AC' := by
  unfold tMt at *
  rw [hC, hC, hC, hC, hC, hC, hC, hC, hC, hC, hC, hC, hC, hA, hB, hI 20 (by omega) (by omega), hI 21 (by omega) (by omega), hI 22 (by omega) (by omega), hI 23 (by omega) (by omega), hI 24 (by omega) (by omega), hI 25 (by omega) (by omega), hI 26 (by omega) (by omega), hI 27 (by omega) (by omega), hI 28 (by omega) (by omega), hI 29 (by omega) (by omega), hI 31 (by omega) (by omega), hI 32 (by omega) (by omega), hI 33 (by omega) (by omega)]
  exact h
theorem tPg.cg (h : tPg I A IC AC) (e1 : I' 0 61 = I 0 61) (e2 : IC' 122 1 = IC 122 1) (hA : A' 59 = A 59) (hB : AC' 123 = AC 123) : tPg I' A' IC' AC' := by
  obtain ⟨len, c1, c2, c3, c4⟩ := h
  exact ⟨len, c1, e1.trans c2, e2.trans c3, by rw [hA, hB]; exact c4⟩
theorem tBd.cg {m : Nat} {B : Nat → Nat} (h : tBd m B I A IC AC) (e1 : I' 0 2 = I 0 2) (e2 : IC' 130 1 = IC 130 1) (hA : A' 1 = A 1) (hB : AC' 131 = AC 131) : tBd m B I' A' IC' AC' := by
  obtain ⟨c1, c2, c3, c4, c5, c6⟩ := h
  exact ⟨c1, c2, e1.trans c3, e2.trans c4, by rw [hA]; exact c5, by rw [hB]; exact c6⟩
theorem begI_k {x : Int32} {k : Nat} (h : (0 < k ∧ k < 35) ∨ 42 < k) : begI I A x 0 k = I 0 k := by
  unfold begI gonI goI tokI
  rw [up2_k (by omega), up2_k (by omega), up2_k (by omega), up2_k (by omega), up2_k (by omega), up2_k (by omega), up2_k (by omega), up2_k (by omega), up2_k (by omega), up2_k (by omega)]
theorem begI_0 {x : Int32} : begI I A x 0 0 = 0 ∧ begI I A x 0 35 = 0 ∧ begI I A x 0 42 = -1 := ⟨rfl, rfl, rfl⟩
def pB (rd : Nat → Nat) (k : Nat) : Nat := if k = 0 then 15 - sumR rd 0 25 else if k = 26 then 15 - sumR rd 26 25 else rd k
theorem pB_s {rd : Nat → Nat} {q : Nat} (hq : q ≤ 1) : ∀ i, i ≤ 25 → sumB (pB rd) (26 * q) (i + 1) = pB rd (26 * q) + sumR rd (26 * q) i := by
  intro i
  induction i with
  | zero => intro _; show 0 + pB rd (26 * q + 0) = _; rw [Nat.zero_add]; rfl
  | succ i ih =>
    intro hi
    show sumB (pB rd) (26 * q) (i + 1) + pB rd (26 * q + (i + 1)) = pB rd (26 * q) + (sumR rd (26 * q) i + rd (26 * q + (i + 1)))
    rw [ih (by omega)]
    have : pB rd (26 * q + (i + 1)) = rd (26 * q + (i + 1)) := by
      unfold pB
      rw [if_neg (by omega), if_neg (by omega)]
    rw [this]
    omega
theorem pB_ok {rd al : Nat → Nat} (h0 : al 0 ≤ 15) (h1 : al 1 ≤ 15) (hs : sumA rd al) : okB (pB rd) := by
  have s0 := hs 0 (by omega)
  have s1 := hs 1 (by omega)
  have p0 := pB_s (rd := rd) (q := 0) (by omega) 25 (by omega)
  have p1 := pB_s (rd := rd) (q := 1) (by omega) 25 (by omega)
  have e0 : pB rd (26 * 0) = 15 - sumR rd 0 25 := rfl
  have e1 : pB rd (26 * 1) = 15 - sumR rd 26 25 := rfl
  rw [e0] at p0
  rw [e1] at p1
  constructor
  · show sumB (pB rd) (26 * 0) (25 + 1) = 15
    rw [p0]
    rw [s0] at h0
    show 15 - sumR rd (26 * 0) 25 + sumR rd (26 * 0) 25 = 15
    omega
  · show sumB (pB rd) (26 * 1) (25 + 1) = 15
    rw [p1]
    rw [s1] at h1
    show 15 - sumR rd (26 * 1) 25 + sumR rd (26 * 1) 25 = 15
    omega
theorem pB_c {r : Nat → Int32} {rd al : Nat → Nat} (h : rdB r rd al) (hs : sumA rd al) : ∀ k, k < 52 → r k = nI (pB rd k) := by
  intro k hk
  have s0 := hs 0 (by omega)
  have s1 := hs 1 (by omega)
  unfold pB
  by_cases k0 : k = 0
  · subst k0
    rw [if_pos rfl]
    have := (h.2 0 (by omega)).1
    rw [s0] at this
    exact this
  · rw [if_neg k0]
    by_cases k1 : k = 26
    · subst k1
      rw [if_pos rfl]
      have := (h.2 1 (by omega)).1
      rw [s1] at this
      exact this
    · rw [if_neg k1]
      by_cases hq : k < 26
      · have := (h.1 0 k (by omega) (by omega) (by omega)).1
        rw [show 26 * 0 + k = k by omega] at this
        exact this
      · have := (h.1 1 (k - 26) (by omega) (by omega) (by omega)).1
        rw [show 26 * 1 + (k - 26) = k by omega] at this
        exact this
theorem pB_r {rd al : Nat → Nat} (h0 : al 0 ≤ 15) (h1 : al 1 ≤ 15) (hs : sumA rd al) (k : Nat) : posB rd k = nI (pB rd k) := by
  have s0 := hs 0 (by omega)
  have s1 := hs 1 (by omega)
  rw [s0] at h0
  rw [s1] at h1
  unfold posB pB
  by_cases k0 : k = 0
  · rw [if_pos k0, if_pos k0]; exact nI_S (a := 15) h0
  · rw [if_neg k0, if_neg k0]
    by_cases k1 : k = 26
    · rw [if_pos k1, if_pos k1]; exact nI_S (a := 15) h1
    · rw [if_neg k1, if_neg k1]
theorem pos_v {x : Int32} {L0 c : Nat} {res : Except (Nat × Nat) (Nat × (Nat → Nat))} {r : Option Value} {σ' : HS} (h : posC P O IC AC JC pl L0 c res r σ' pl') : ∃ v, r = some (.int v) := by
  obtain ⟨I1, A1, -, -, h⟩ := h
  cases res with
  | error fp => exact ⟨_, h.1⟩
  | ok wr => exact ⟨_, h.1⟩
theorem s_position (F : FLx X cL_law RL 7) (hR : RmL X) (hC : RmC X) (S : Scr X b L xs0) (hn : n + 5 < L) (T : TIE g I A J P O IC AC JC pl) (h1 : k1 ≤ potC n g (frT O)) (h2 : k2 ≤ potS n g (frT O)) (kc : KC X b ax ay ao n) : LA X ax ay ao (mS I A J) plM (mC P O IC AC JC) pl U k1 k2 (strt 1) (LB b ax ay ao (nI n)) [] := by
  obtain ⟨p1, p2⟩ := pot_le (n := n) (f := frT O) (by have := S.2.2.2; omega) T.g6
  obtain ⟨m, B, sz, Lv, p, hd, mt, τ, iv, eg, tb, tm, tt, tp, tl, ts, tr⟩ := id T
  have hc := hC.1
  have hs := hC.2.1
  have i100 : 100 ∈ pl := iv.2.1 _ (by decide)
  generalize ea : xs0 (n + 1) = x
  obtain ⟨a1, a2, a3, a4, a5, a6⟩ := id ts
  obtain ⟨hsz, e1, e2, e3, e4⟩ := id tt
  refine w_position F hR S hn (h_position (p0 := xs0 (n + 1)) (c_11_position (xl X) hC.2.2 iv.1 IC AC JC iv.2.1 (xs0 (n + 1)) sz hd p hsz e2 iv.2.2.1 iv.2.2.2.1 iv.2.2.2.2.1 a2 a1 a4 a5 tr.2.2.1) i100 rfl (fun r σ' pl' h => pos_v (x := 0) h.2.2) (fun E σ' pl' h => h.2.2.imp And.left And.left)) i100 (by omega) (by omega) ?_
  rw [ea]
  intro k σ' pl' U' hΘ _
  refine ⟨5, _, by decide, c_position (xl X) I A J x sz p hsz e1 a1 a3, ?_⟩
  rw [e3, show I 0 35 = IC 120 1 by rw [e1, e2]]
  rcases hΘ with ⟨rfl, v, ⟨h0, hu, hps⟩, rfl⟩ | ⟨E, ⟨rfl, rfl, he⟩, rfl, rfl⟩
  · rw [if_pos h0, if_neg (fun z => hu ((t_und tm).mpr z))]
    intro r σR plR hΦ
    generalize posF (AC 121) x.toNatClampNeg = res at *
    obtain ⟨I1, A1, fT, fA, hps⟩ := hps
    obtain ⟨rfl, I3, A3, rfl, hΦ⟩ := hΦ
    have fI : ∀ q k, q ≠ 104 → q ≠ 132 → q ≠ 106 → I1 q k = IC q k := fun q k h1 h2 h3 => fT q k (fun z => h1 z.1) h2 h3
    cases res with
    | error fp =>
      obtain ⟨hv, -, h8, rfl, rfl⟩ := hps
      cases hv
      obtain ⟨-, -, -, rfl, fr, h42, fA3⟩ := hΦ
      have hI3 : ∀ k, (0 < k ∧ k < 35) ∨ 42 < k → I3 0 k = I 0 k := fun k hk => (fr k (by omega)).trans (begI_k hk)
      refine ⟨_, _, _, _, rfl, rfl, rfl, (fr 0 (by omega)).trans rfl, fun _ => rfl, kc _ _ _ _ _ _ _ _ (INV.mk (g := g) ⟨m, B, 0, Lv, p, hd, mt, τ, iv.fr (fun q k hq => ?_) (fA 118 (by decide)), eg, tb.cg (hI3 2 (by omega)) (fI 130 1 (by decide) (by decide) (by decide)) (fA3 1 (by decide)) (fA 131 (by decide)), tm.cg (fun k h1 h2 => hI3 k (by omega)) (fun k => fI 114 k (by decide) (by decide) (by decide)) (fA3 30 (by decide)) (fA 115 (by decide)), ⟨by omega, (fr 35 (by omega)).trans rfl, rfl, ?_, h42.trans h8.symm⟩, tp.cg (hI3 61 (by omega)) (fI 122 1 (by decide) (by decide) (by decide)) (fA3 59 (by decide)) (fA 123 (by decide)), ⟨tl.1.cg (hI3 55 (by omega)) (hI3 56 (by omega)) (fun q h1 h2 => fA3 q (by omega)), tl.2.1, (fI 100 10 (by decide) (by decide) (by decide)).trans tl.2.2⟩, ts.fr (hI3 19 (by omega)) (fA3 18 (by decide)) (fI 102 1 (by decide) (by decide) (by decide)) (fI 102 2 (by decide) (by decide) (by decide)) (fun q k hq => ?_) (fun q hq => fA q (by omega)), tr.fr (hI3 16 (by omega)) (hI3 17 (by omega)) (fun z => qSt.of (hI3 20 (by omega)).symm z) (fA3 13 (by decide)) (fA3 14 (by decide)) (fA3 15 (by decide)) (fI 110 5 (by decide) (by decide) (by decide)) (fI 110 6 (by decide) (by decide) (by decide)) (fI 110 7 (by decide) (by decide) (by decide)) (fun q hq => fA q (by omega))⟩ (pot_st h1 h2 (by decide) (by decide)))⟩
      · rw [up2_p (by omega), fI _ _ (by omega) (by omega) (by omega)]
      · rw [fA3 34 (by decide), fA 121 (by decide)]; exact e3
      · rw [up2_p (by omega), fI _ _ (by omega) (by omega) (by omega)]
    | ok wr =>
      obtain ⟨hv, -, h8, hw1, hw2, ⟨al, hrd, hal⟩, O2, I2, A2, hk, rfl⟩ := hps
      cases hv
      obtain ⟨-, rfl, f2, f16, f19, f42, fk, fB, f18, fA3⟩ := hΦ
      have hI3 : ∀ k, (0 < k ∧ k < 35) ∨ 42 < k → k ≠ 2 → k ≠ 16 → k ≠ 19 → I3 0 k = I 0 k := fun k hk x1 x2 x3 => (fk k x1 x2 x3 (by omega)).trans (begI_k hk)
      have tb1 : tBd m B I A I1 A1 := tb.cg rfl (fI 130 1 (by decide) (by decide) (by decide)) rfl (fA 131 (by decide))
      have iv1 : invC P O I1 A1 JC pl g := iv.fr (fun q k hq => fI q k (by omega) (by omega) (by omega)) (fA 118 (by decide))
      have ts1 : tPs p hd I A O I1 A1 := ts.fr rfl rfl (fI 102 1 (by decide) (by decide) (by decide)) (fI 102 2 (by decide) (by decide) (by decide)) (fun q k hq => fI q k (by omega) (by omega) (by omega)) (fun q hq => fA q (by omega))
      obtain ⟨iv2, ef⟩ := kp_i (Nat.mod_lt _ (by decide)) iv1 hk
      obtain ⟨x1, x2, x3, x4, x5, x6, x7, x8, x9, x10, x11, x12, x13⟩ := kp_x hk
      have ts2 : tPs (remP p + 1) ((hd + 1) % 8) I3 A3 O2 I2 A2 := t_keep tb1 ts1 hk f19 (by rw [f18, begI_k (by omega)])
      have gI : ∀ q k, q ≠ 102 → q ≠ 104 → q ≠ 132 → q ≠ 106 → q < 200 → I2 q k = IC q k := fun q k y1 y2 y3 y4 y5 => (x9 q k y1 (by omega)).trans (fI q k y2 y3 y4)
      have gA : ∀ q, q ≠ 133 → q < 200 → A2 q = AC q := fun q y1 y2 => (x11 q (by omega)).trans (fA q y1)
      have tr2 : tbS P I2 A2 JC pl' mt τ := by
        obtain ⟨y1, y2, y3, y4, y5, y6, y7, y8, o, y9⟩ := tr.2.2.1
        exact ⟨y1.up x3 (fun q hq => (x4 q hq).imp id (fun z => Or.inl (by omega))), y2, y3, by rw [gI _ _ (by decide) (by decide) (by decide) (by decide) (by decide)]; exact y4, by rw [gI _ _ (by decide) (by decide) (by decide) (by decide) (by decide)]; exact y5, by rw [gI _ _ (by decide) (by decide) (by decide) (by decide) (by decide)]; exact y6, y7, y8, o, by rw [x11 _ (by omega), fA _ (by omega)]; exact y9⟩
      have al0 := (hrd.2 0 (by omega)).2
      have al1 := (hrd.2 1 (by omega)).2
      have hok := pB_ok al0 al1 hal
      refine ⟨_, I3, A3, J, rfl, rfl, rfl, (fk 0 (by omega) (by omega) (by omega) (by omega)).trans rfl, fun _ => rfl, kc _ _ _ _ _ _ _ _ (INV.mk (g := g) ⟨wr.1, pB wr.2, 0, Lv, remP p + 1, (hd + 1) % 8, mt, (τ.1, 0, τ.2.2.1, τ.2.2.2.1, τ.2.2.2.2), iv2.fr (fun q k hq => ?_) rfl, eg, ⟨hw1, hok, f2, ?_, fun k hk => ?_, fun k hk => ?_⟩, tm.cg (fun k h1 h2 => hI3 k (by omega) (by omega) (by omega) (by omega)) (fun k => gI 114 k (by decide) (by decide) (by decide) (by decide) (by decide)) (fA3 30 (by decide) (by decide) (by decide)) (gA 115 (by decide) (by decide)), ⟨by omega, (fk 35 (by omega) (by omega) (by omega) (by omega)).trans rfl, rfl, ?_, ?_⟩, tp.cg (hI3 61 (by omega) (by omega) (by omega) (by omega)) (gI 122 1 (by decide) (by decide) (by decide) (by decide) (by decide)) (fA3 59 (by decide) (by decide) (by decide)) (gA 123 (by decide) (by decide)), ⟨tl.1.cg (hI3 55 (by omega) (by omega) (by omega) (by omega)) (hI3 56 (by omega) (by omega) (by omega) (by omega)) (fun q h1 h2 => fA3 q (by omega) (by omega) (by omega)), tl.2.1, (gI 100 10 (by decide) (by decide) (by decide) (by decide) (by decide)).trans tl.2.2⟩, ts2.fr rfl rfl rfl rfl (fun q k hq => ?_) (fun q hq => up1_p (by omega)), ⟨tr.1, ⟨fun z => absurd rfl z, fun _ => rfl⟩, tr2.zero rfl rfl rfl, f16, by rw [hI3 17 (by omega) (by omega) (by omega) (by omega)]; exact tr.2.2.2.2.1, fun j hj => absurd hj (Nat.not_lt_zero _)⟩⟩ (by rw [ef]; exact pot_st h1 h2 (by decide) (by decide)))⟩
      · rw [up2_p (by omega), up2_p (by omega), up2_p (by omega)]
      · show I2 132 1 = nI wr.1
        rw [x9 132 1 (by decide) (by omega)]; exact hw2
      · rw [Nat.zero_add, fB k hk, pB_r al0 al1 hal]
        exact ⟨rfl, Nat.le_trans (okB_le hok hk) (by decide)⟩
      · rw [Nat.zero_add]
        refine ⟨?_, Nat.le_trans (okB_le hok hk) (by decide)⟩
        show va_cpy (A2 133) (A2 131) 0 0 52 k = _
        unfold va_cpy
        rw [if_pos (by omega), show 0 + (k - 0) = k by omega, x11 133 (by omega)]
        exact pB_c hrd hal k hk
      · rw [fA3 34 (by decide) (by decide) (by decide)]
        exact e3.trans (gA 121 (by decide) (by decide)).symm
      · rw [f42]
        show -1 = I2 104 8
        rw [x9 104 8 (by decide) (by omega), h8]
      · rw [up2_p (by omega), up2_p (by omega), up2_p (by omega)]
  · rcases he with ⟨rfl, he⟩ | ⟨rfl, h0, he⟩
    · rw [if_neg he]
      rintro r σR plR ⟨rfl, rfl, rfl⟩
      exact ⟨_, _, _, _, rfl, rfl, rfl, rfl, fun z => absurd z (by decide), kc _ _ _ _ _ _ _ _ (INV.mk (T.thr _) (pot_st h1 h2 (by decide) (by decide)))⟩
    · rw [if_pos h0, if_pos ((t_und tm).mp he)]
      rintro r σR plR ⟨rfl, rfl, rfl⟩
      exact ⟨_, _, _, _, rfl, rfl, rfl, rfl, fun z => absurd z (by decide), kc _ _ _ _ _ _ _ _ (INV.mk (T.thr _) (pot_st h1 h2 (by decide) (by decide)))⟩
end