/-! rolls, best, within, race -/
section
variable {X : Ctx} {b ax ay ao L n g k1 k2 : Nat} {xs0 : Nat → Int32} {I A : Nat → Nat → Int32} {J : Nat → Nat → Int64} {P O : Nat → Nat → Option Nat} {IC AC : Nat → Nat → Int32} {JC : Nat → Nat → Int64} {pl : List Nat} {U : Nat → Int64} {I' A' I3 A3 : Nat → Nat → Int32} {P1 O1 P3 O3 : Nat → Nat → Option Nat} {J' J1 J3 : Nat → Nat → Int64} {I1 : Nat → Nat → Int32} {pl1 pl3 : List Nat}
/-- one page on both sides -/
theorem t_page {len len' : Nat} {txt txt' : Nat → Nat} {u p : Nat} (hp : prT u p len txt) (hp' : prT u p len' txt') (hl : len ≤ 400) (hc : I3 122 1 = nI len) (ht : ∀ i, i < len → A3 123 i = nI (txt i)) (hc' : I' 0 61 = nI len') (ht' : ∀ i, i < len' → A' 59 i = nI (txt' i)) : tPg I' A' I3 A3 ∧ len = len' := by
  obtain ⟨e, et⟩ := prT_u hp hp'
  subst e
  exact ⟨⟨len, hl, hc', hc, fun i hi => by rw [ht i hi, ht' i hi, et i hi]⟩, rfl⟩
theorem s_rolls (F : FLx X cL_law RL 7) (hR : RmL X) (hC : RmC X) (S : Scr X b L xs0) (hn : n + 5 < L) (T : TIE g I A J P O IC AC JC pl) (h1 : k1 ≤ potC n g (frT O)) (h2 : k2 ≤ potS n g (frT O)) (kc : KC X b ax ay ao n) : LA X ax ay ao (mS I A J) plM (mC P O IC AC JC) pl U k1 k2 (strt 18) (LB b ax ay ao (nI n)) [] := by
  obtain ⟨p1, p2⟩ := pot_le (n := n) (f := frT O) (by have := S.2.2.2; omega) T.g6
  obtain ⟨m, B, sz, Lv, p, hd, mt, τ, iv, eg, tb, tm, tt, tp, tl, ts, tr⟩ := id T
  have hc := hC.1
  have hs := hC.2.1
  have i100 : 100 ∈ pl := iv.2.1 _ (by decide)
  generalize ex : xs0 (n + 1) = x
  have hL90 : Lv ≤ 90 := tl.1.2.1
  have hfl := frT_le O
  refine w_rolls F hR S hn (h_rolls (p0 := xs0 (n + 1)) (c_11_rolls (xl X) hC.2.2 iv.1 IC AC JC iv.2.1 (xs0 (n + 1)) iv.2.2.1 iv.2.2.2.2.2.2.1 iv.2.2.2.2.2.1 iv.2.2.2.2.2.2.2.1 iv.2.2.2.1 iv.2.2.2.2.2.2.2.2.1 iv.2.2.2.2.2.2.2.2.2.1 iv.2.2.2.2.2.2.2.2.2.2.1) i100 rfl (fun r σ' pl' h => by obtain ⟨-, -, _, _, _, _, -, _, _, _, _, _, -, -, -, h, -⟩ := h; exact ⟨_, h⟩) (fun E σ' pl' h => h.2.2.imp And.left And.left)) i100 ?_ ?_ ?_
  · rw [ex]
    have := gN_le (c := stdI x ∧ nI (pipS x.toNatClampNeg) ≤ IC 100 10) (v := 2 * ndF O x.toNatClampNeg) (M := 1696) (fun _ => by have := ndF_le O x.toNatClampNeg; omega)
    omega
  · rw [ex]
    have := gN_le (c := stdI x ∧ nI (pipS x.toNatClampNeg) ≤ IC 100 10) (v := 1153 * ndF O x.toNatClampNeg) (M := 977744) (fun _ => by have := ndF_le O x.toNatClampNeg; omega)
    omega
  rw [ex]
  intro k σ' pl' U' hΘ _
  refine ⟨5, _, by decide, c_rolls (xl X) I A J x Lv tl.1 tl.2.1, ?_⟩
  intro r σR plR hΦ
  rcases hΘ with ⟨rfl, v, ⟨h0, hpp, P1, O1, I1, J1, hwo, hpg⟩, rfl⟩ | ⟨E, ⟨rfl, rfl, he⟩, rfl, rfl⟩
  · have cst := h0
    obtain ⟨s, hs, rfl⟩ := std_of h0
    have es : (nI s).toNatClampNeg = s := nI_clamp (by have := hs.1; omega)
    unfold rolQ at hΦ
    rw [es] at hwo hpg hpp hΦ ⊢
    have hpl := (pip_n hs hL90 tl.2.2).mp hpp
    obtain ⟨fB, hfr, -⟩ := wo_B hs iv hwo
    obtain ⟨I3, A3, J3, len, txt, rfl, -, hv, hl, hp, h122, htx, fB3⟩ := pg_B fB hpg
    cases hv
    obtain ⟨I', A', J', len', txt', rfl, rfl, rfl, q0, q1, q2, q3, q4, q5, q6, q7, q8⟩ := hΦ.2.2 ⟨cst, by rw [es]; exact hpl⟩
    have hp4 := prT_k hp 4
    rw [← eF_4 s hs] at hp4
    obtain ⟨tp2, e⟩ := t_page hp4 q5 hl h122 htx q3 q6
    subst e
    refine ⟨_, _, _, _, rfl, rfl, rfl, q0, fun _ => rfl, kc _ _ _ _ _ _ _ _ (INV.mk (t_bear iv eg tb tm tt tl ts tr fB3 (fun k h1 h2 => q7 k (by omega) h2) (fun q h => q8 q h) q1 q2 tp2) (pot_sh (c := 9) (s := 80) h1 h2 hfl hfr (by rw [gN_t ⟨cst, hpp⟩]) (by rw [gN_t ⟨cst, hpp⟩]) (by decide) (by decide)))⟩
  · rcases he with ⟨rfl, he⟩ | ⟨rfl, h0, he⟩
    · obtain ⟨rfl, rfl, rfl⟩ := hΦ.1 he
      refine ⟨_, _, _, _, rfl, rfl, rfl, rfl, fun z => absurd z (by decide), kc _ _ _ _ _ _ _ _ (INV.mk (T.thr _) ?_)⟩
      rw [gN_f (fun z => he z.1), gN_f (fun z => he z.1)]
      exact pot_st h1 h2 (by decide) (by decide)
    · have hno : ¬ pipS x.toNatClampNeg ≤ Lv := by
        obtain ⟨s, hs, rfl⟩ := std_of h0
        rw [nI_clamp (by have := hs.1; omega)] at he ⊢
        exact fun z => he ((pip_n hs hL90 tl.2.2).mpr z)
      obtain ⟨rfl, rfl, rfl⟩ := hΦ.2.1 h0 hno
      refine ⟨_, _, _, _, rfl, rfl, rfl, rfl, fun z => absurd z (by decide), kc _ _ _ _ _ _ _ _ (INV.mk (T.thr _) ?_)⟩
      rw [gN_f (fun z => he z.2), gN_f (fun z => he z.2)]
      exact pot_st h1 h2 (by decide) (by decide)
theorem s_within (F : FLx X cL_law RL 7) (hR : RmL X) (hC : RmC X) (S : Scr X b L xs0) (hn : n + 5 < L) (T : TIE g I A J P O IC AC JC pl) (h1 : k1 ≤ potC n g (frT O)) (h2 : k2 ≤ potS n g (frT O)) (kc : KC X b ax ay ao n) : LA X ax ay ao (mS I A J) plM (mC P O IC AC JC) pl U k1 k2 (strt 20) (LB b ax ay ao (nI n)) [] := by
  obtain ⟨p1, p2⟩ := pot_le (n := n) (f := frT O) (by have := S.2.2.2; omega) T.g6
  obtain ⟨m, B, sz, Lv, p, hd, mt, τ, iv, eg, tb, tm, tt, tp, tl, ts, tr⟩ := id T
  have hc := hC.1
  have hs := hC.2.1
  have i100 : 100 ∈ pl := iv.2.1 _ (by decide)
  generalize ex : xs0 (n + 1) = x
  generalize ec : xs0 (n + 2) = c
  have hL90 : Lv ≤ 90 := tl.1.2.1
  have hfl := frT_le O
  refine w_within F hR S hn (h_within (p0 := xs0 (n + 1)) (p1 := xs0 (n + 2)) (c_11_within (xl X) hC.2.2 iv.1 IC AC JC iv.2.1 (xs0 (n + 1)) (xs0 (n + 2)) iv.2.2.1 iv.2.2.2.2.2.2.1 iv.2.2.2.2.2.1 iv.2.2.2.2.2.2.2.1 iv.2.2.2.1 iv.2.2.2.2.2.2.2.2.1 iv.2.2.2.2.2.2.2.2.2.1 iv.2.2.2.2.2.2.2.2.2.2.1) i100 rfl (fun r σ' pl' h => by obtain ⟨-, -, -, _, _, _, _, -, _, _, _, _, _, -, -, -, h, -⟩ := h; exact ⟨_, h⟩) (fun E σ' pl' h => h.2.2.imp And.left And.left)) i100 ?_ ?_ ?_
  · rw [ex, ec]
    have := gN_le (c := stdI x ∧ (0 ≤ c ∧ c ≤ 12) ∧ nI (pipS x.toNatClampNeg) ≤ IC 100 10) (v := 2 * ndF O x.toNatClampNeg) (M := 1696) (fun _ => by have := ndF_le O x.toNatClampNeg; omega)
    omega
  · rw [ex, ec]
    have := gN_le (c := stdI x ∧ (0 ≤ c ∧ c ≤ 12) ∧ nI (pipS x.toNatClampNeg) ≤ IC 100 10) (v := 1153 * ndF O x.toNatClampNeg) (M := 977744) (fun _ => by have := ndF_le O x.toNatClampNeg; omega)
    omega
  rw [ex, ec]
  intro k σ' pl' U' hΘ _
  refine ⟨5, _, by decide, c_within (xl X) I A J x c Lv tl.1 tl.2.1, ?_⟩
  intro r σR plR hΦ
  rcases hΘ with ⟨rfl, v, ⟨h0, hc12, hpp, P1, O1, I1, J1, hwo, hpg⟩, rfl⟩ | ⟨E, ⟨rfl, rfl, he⟩, rfl, rfl⟩
  · have cst := h0
    obtain ⟨s, hs, rfl⟩ := std_of h0
    have es : (nI s).toNatClampNeg = s := nI_clamp (by have := hs.1; omega)
    unfold witQ at hΦ
    rw [es] at hwo hpg hpp hΦ ⊢
    have hpl := (pip_n hs hL90 tl.2.2).mp hpp
    obtain ⟨fB, hfr, -⟩ := wo_B hs iv hwo
    obtain ⟨I3, A3, J3, len, txt, rfl, -, hv, hl, hp, h122, htx, fB3⟩ := pg_B fB hpg
    cases hv
    obtain ⟨I', A', J', len', txt', rfl, rfl, rfl, q0, q1, q2, q3, q4, q5, q6, q7, q8⟩ := hΦ.2.2 hc12 ⟨cst, by rw [es]; exact hpl⟩
    obtain ⟨tp2, e⟩ := t_page hp q5 hl h122 htx q3 q6
    subst e
    refine ⟨_, _, _, _, rfl, rfl, rfl, q0, fun _ => rfl, kc _ _ _ _ _ _ _ _ (INV.mk (t_bear iv eg tb tm tt tl ts tr fB3 (fun k h1 h2 => q7 k (by omega) h2) (fun q h => q8 q h) q1 q2 tp2) (pot_sh (c := 10) (s := 90) h1 h2 hfl hfr (by rw [gN_t ⟨cst, hc12, hpp⟩]) (by rw [gN_t ⟨cst, hc12, hpp⟩]) (by decide) (by decide)))⟩
  · rcases he with ⟨rfl, he⟩ | ⟨rfl, h0, he⟩
    · obtain ⟨rfl, rfl, rfl⟩ := hΦ.1 he
      refine ⟨_, _, _, _, rfl, rfl, rfl, rfl, fun z => absurd z (by decide), kc _ _ _ _ _ _ _ _ (INV.mk (T.thr _) ?_)⟩
      rw [gN_f (fun z => he ⟨z.1, z.2.1⟩), gN_f (fun z => he ⟨z.1, z.2.1⟩)]
      exact pot_st h1 h2 (by decide) (by decide)
    · have hno : ¬ pipS x.toNatClampNeg ≤ Lv := by
        obtain ⟨s, hs, rfl⟩ := std_of h0.1
        rw [nI_clamp (by have := hs.1; omega)] at he ⊢
        exact fun z => he ((pip_n hs hL90 tl.2.2).mpr z)
      obtain ⟨rfl, rfl, rfl⟩ := hΦ.2.1 h0 hno
      refine ⟨_, _, _, _, rfl, rfl, rfl, rfl, fun z => absurd z (by decide), kc _ _ _ _ _ _ _ _ (INV.mk (T.thr _) ?_)⟩
      rw [gN_f (fun z => he z.2.2), gN_f (fun z => he z.2.2)]
      exact pot_st h1 h2 (by decide) (by decide)
theorem s_best (F : FLx X cL_law RL 7) (hR : RmL X) (hC : RmC X) (S : Scr X b L xs0) (hn : n + 5 < L) (T : TIE g I A J P O IC AC JC pl) (h1 : k1 ≤ potC n g (frT O)) (h2 : k2 ≤ potS n g (frT O)) (kc : KC X b ax ay ao n) : LA X ax ay ao (mS I A J) plM (mC P O IC AC JC) pl U k1 k2 (strt 19) (LB b ax ay ao (nI n)) [] := by
  obtain ⟨p1, p2⟩ := pot_le (n := n) (f := frT O) (by have := S.2.2.2; omega) T.g6
  obtain ⟨m, B, sz, Lv, p, hd, mt, τ, iv, eg, tb, tm, tt, tp, tl, ts, tr⟩ := id T
  have hc := hC.1
  have hs := hC.2.1
  have i100 : 100 ∈ pl := iv.2.1 _ (by decide)
  generalize ex : xs0 (n + 1) = x
  generalize ea : xs0 (n + 2) = a
  generalize ec : xs0 (n + 3) = c
  have hL90 : Lv ≤ 90 := tl.1.2.1
  have hfl := frT_le O
  refine w_best F hR S hn (h_best (p0 := xs0 (n + 1)) (p1 := xs0 (n + 2)) (p2 := xs0 (n + 3)) (c_11_best (xl X) hC.2.2 iv.1 IC AC JC iv.2.1 (xs0 (n + 1)) (xs0 (n + 2)) (xs0 (n + 3)) iv.2.2.1 iv.2.2.2.2.2.2.1 iv.2.2.2.2.2.1 iv.2.2.2.2.2.2.2.1 iv.2.2.2.1 iv.2.2.2.2.2.2.2.2.1 iv.2.2.2.2.2.2.2.2.2.1) i100 rfl (fun r σ' pl' h => by obtain ⟨-, -, -, _, _, _, _, -, h, -⟩ := h; exact ⟨_, h⟩) (fun E σ' pl' h => h.2.2.imp And.left And.left)) i100 ?_ ?_ ?_
  · rw [ex, ea, ec]
    have := gN_le (c := stdI x ∧ ((1 ≤ a ∧ a ≤ 6) ∧ (1 ≤ c ∧ c ≤ 6)) ∧ nI (pipS x.toNatClampNeg) ≤ IC 100 10) (v := 2 * ndF O x.toNatClampNeg) (M := 1696) (fun _ => by have := ndF_le O x.toNatClampNeg; omega)
    omega
  · rw [ex, ea, ec]
    have := gN_le (c := stdI x ∧ ((1 ≤ a ∧ a ≤ 6) ∧ (1 ≤ c ∧ c ≤ 6)) ∧ nI (pipS x.toNatClampNeg) ≤ IC 100 10) (v := 1153 * ndF O x.toNatClampNeg) (M := 977744) (fun _ => by have := ndF_le O x.toNatClampNeg; omega)
    omega
  rw [ex, ea, ec]
  intro k σ' pl' U' hΘ _
  refine ⟨5, _, by decide, c_best (xl X) I A J x a c Lv tl.1, ?_⟩
  intro r σR plR hΦ
  rcases hΘ with ⟨rfl, v, ⟨h0, hdc, hpp, P1, O1, I1, J1, hwo, hpc⟩, rfl⟩ | ⟨E, ⟨rfl, rfl, he⟩, rfl, rfl⟩
  · have cst := h0
    obtain ⟨s, hs, rfl⟩ := std_of h0
    have es : (nI s).toNatClampNeg = s := nI_clamp (by have := hs.1; omega)
    unfold besQ at hΦ
    rw [es] at hwo hpc hpp hΦ ⊢
    have hpl := (pip_n hs hL90 tl.2.2).mp hpp
    obtain ⟨fB, hfr, -⟩ := wo_B hs iv hwo
    obtain ⟨hv, -, P3, I3, rfl, fP3, fK3, hcl3⟩ := hpc
    cases hv
    obtain ⟨I', A', rfl, rfl, rfl, q0, q1, q2, q3⟩ := hΦ.2.2 hdc ⟨cst, by rw [es]; exact hpl⟩
    have fB3 : frB P O IC AC JC pl P3 O1 I3 AC J1 pl' := by
      obtain ⟨f1, f2, f3, f4, f5, f6, f7, f8, f9, f10, f11, f12⟩ := fB
      exact ⟨fun q k h => (fP3 q k h).trans (f1 q k h), fun q k h h' => (fK3 q k (fun z => h z.1)).trans (f2 q k h h'), f3, f4, hcl3, f6, f7, f8, f9, f10, f11, f12⟩
    have f2 : ∀ q k, q ≠ 116 → ¬ (q = 122 ∧ k = 1) → I3 q k = IC q k := fB3.2.1
    have tp2 : tPg I' A' I3 AC := by
      refine tp.cg (q2 61 (by decide) (by decide)) ?_ (q3 59 (by decide) (by decide) (by decide)) rfl
      exact (fK3 122 1 (by omega)).trans (by
        obtain ⟨-, P', O', Iw, J', e, hg, -⟩ := hwo
        have eI : I1 = Iw := congrArg (fun s : HS => s.2.2.1) e
        subst eI
        exact hg.2.1 122 1 (by omega))
    have hd1 : 1 ≤ a.toNatClampNeg ∧ 1 ≤ c.toNatClampNeg := by
      obtain ⟨x, y, rfl, rfl, hx, hy⟩ := dice_n hdc
      rw [nI_clamp (by omega), nI_clamp (by omega)]
      omega
    refine ⟨_, _, _, _, rfl, rfl, rfl, q0, fun _ => ?_, kc _ _ _ _ _ _ _ _ (INV.mk (t_bear iv eg tb tm tt tl ts tr fB3 (fun k h1 h2 => q2 k (by omega) (by omega)) (fun q h => q3 q (by omega) (by omega) (by omega)) q1 tl.2.1 tp2) (pot_sh (c := 10) (s := 90) h1 h2 hfl hfr (by rw [gN_t ⟨cst, hdc, hpp⟩]) (by rw [gN_t ⟨cst, hdc, hpp⟩]) (by decide) (by decide)))⟩
    rw [bst_36 hs hd1.1 hd1.2]
    rfl
  · rcases he with ⟨rfl, he⟩ | ⟨rfl, h0, he⟩
    · obtain ⟨rfl, rfl, rfl⟩ := hΦ.1 he
      refine ⟨_, _, _, _, rfl, rfl, rfl, rfl, fun z => absurd z (by decide), kc _ _ _ _ _ _ _ _ (INV.mk (T.thr _) ?_)⟩
      rw [gN_f (fun z => he ⟨z.1, z.2.1⟩), gN_f (fun z => he ⟨z.1, z.2.1⟩)]
      exact pot_st h1 h2 (by decide) (by decide)
    · have hno : ¬ pipS x.toNatClampNeg ≤ Lv := by
        obtain ⟨s, hs, rfl⟩ := std_of h0.1
        rw [nI_clamp (by have := hs.1; omega)] at he ⊢
        exact fun z => he ((pip_n hs hL90 tl.2.2).mpr z)
      obtain ⟨rfl, rfl, rfl⟩ := hΦ.2.1 h0 hno
      refine ⟨_, _, _, _, rfl, rfl, rfl, rfl, fun z => absurd z (by decide), kc _ _ _ _ _ _ _ _ (INV.mk (T.thr _) ?_)⟩
      rw [gN_f (fun z => he z.2.2), gN_f (fun z => he z.2.2)]
      exact pot_st h1 h2 (by decide) (by decide)
theorem s_race (F : FLx X cL_law RL 7) (hR : RmL X) (hC : RmC X) (S : Scr X b L xs0) (hn : n + 5 < L) (T : TIE g I A J P O IC AC JC pl) (h1 : k1 ≤ potC n g (frT O)) (h2 : k2 ≤ potS n g (frT O)) (kc : KC X b ax ay ao n) : LA X ax ay ao (mS I A J) plM (mC P O IC AC JC) pl U k1 k2 (strt 21) (LB b ax ay ao (nI n)) [] := by
  obtain ⟨p1, p2⟩ := pot_le (n := n) (f := frT O) (by have := S.2.2.2; omega) T.g6
  obtain ⟨m, B, sz, Lv, p, hd, mt, τ, iv, eg, tb, tm, tt, tp, tl, ts, tr⟩ := id T
  have hc := hC.1
  have hs := hC.2.1
  have i100 : 100 ∈ pl := iv.2.1 _ (by decide)
  generalize ex : xs0 (n + 1) = x
  generalize ey : xs0 (n + 2) = y
  have hL90 : Lv ≤ 90 := tl.1.2.1
  have hfl := frT_le O
  refine w_race F hR S hn (h_race (p0 := xs0 (n + 1)) (p1 := xs0 (n + 2)) (c_11_race (xl X) hC.2.2 iv.1 IC AC JC iv.2.1 (xs0 (n + 1)) (xs0 (n + 2)) iv.2.2.1 iv.2.2.2.2.2.2.1 iv.2.2.2.2.2.1 iv.2.2.2.2.2.2.2.1 iv.2.2.2.1 iv.2.2.2.2.2.2.2.2.1 iv.2.2.2.2.2.2.2.2.2.1 iv.2.2.2.2.2.2.2.2.2.2.1) i100 rfl (fun r σ' pl' h => by obtain ⟨-, -, -, -, _, _, _, _, -, -, -, _, _, _, _, _, -, -, -, h, -⟩ := h; exact ⟨_, h⟩) (fun E σ' pl' h => by
    rcases h with ⟨-, -, h | h⟩ | h | h
    · exact Or.inl h.1
    · exact Or.inr (Or.inl h.1)
    · exact Or.inr (Or.inl h.1)
    · exact Or.inr (Or.inr h.1))) i100 ?_ ?_ ?_
  · rw [ex, ey]
    have := gN_le (c := (stdI x ∧ stdI y) ∧ (nI (pipS x.toNatClampNeg) ≤ IC 100 10 ∧ nI (pipS y.toNatClampNeg) ≤ IC 100 10)) (v := 2 * rcF O x.toNatClampNeg y.toNatClampNeg) (M := 1696) (fun _ => by have := rcF_le O x.toNatClampNeg y.toNatClampNeg; omega)
    omega
  · rw [ex, ey]
    have := gN_le (c := (stdI x ∧ stdI y) ∧ (nI (pipS x.toNatClampNeg) ≤ IC 100 10 ∧ nI (pipS y.toNatClampNeg) ≤ IC 100 10)) (v := 1153 * rcF O x.toNatClampNeg y.toNatClampNeg) (M := 977744) (fun _ => by have := rcF_le O x.toNatClampNeg y.toNatClampNeg; omega)
    omega
  rw [ex, ey]
  intro k σ' pl' U' hΘ _
  refine ⟨5, _, by decide, c_race (xl X) I A J x y Lv tl.1 tl.2.1, ?_⟩
  intro r σR plR hΦ
  have hpip : stdI x ∧ stdI y → ((nI (pipS x.toNatClampNeg) ≤ IC 100 10 ∧ nI (pipS y.toNatClampNeg) ≤ IC 100 10) ↔ (pipS x.toNatClampNeg ≤ Lv ∧ pipS y.toNatClampNeg ≤ Lv)) := by
    rintro ⟨hx, hy⟩
    obtain ⟨s, hs, rfl⟩ := std_of hx
    obtain ⟨t, ht, rfl⟩ := std_of hy
    rw [nI_clamp (by have := hs.1; omega), nI_clamp (by have := ht.1; omega), pip_n hs hL90 tl.2.2, pip_n ht hL90 tl.2.2]
  have hzero : stdI x ∧ stdI y → ((x.toNatClampNeg = 0 ∧ y.toNatClampNeg = 0) ↔ (x = 0 ∧ y = 0)) := by
    rintro ⟨hx, hy⟩
    obtain ⟨s, hs, rfl⟩ := std_of hx
    obtain ⟨t, ht, rfl⟩ := std_of hy
    rw [nI_clamp (by have := hs.1; omega), nI_clamp (by have := ht.1; omega), nI_z (by have := hs.1; omega), nI_z (by have := ht.1; omega)]
  have hthr : ∀ (c : Int32) P1 O1 I1 J1 pl1, gr P O IC JC pl P1 O1 I1 J1 pl1 → sdI O1 J1 → frT O1 + rcF O x.toNatClampNeg y.toNatClampNeg = frT O → rfQ I A c Lv r σR plR → ((stdI x ∧ stdI y) ∧ (nI (pipS x.toNatClampNeg) ≤ IC 100 10 ∧ nI (pipS y.toNatClampNeg) ≤ IC 100 10)) → ∃ v I' A' J', r = some (.int v) ∧ σR = mS I' A' J' ∧ plR = plM ∧ I' 0 0 = c ∧ LA X ax ay ao (mS I' A' J') plM (mC P1 O1 I1 AC J1) pl1 U (k1 + (14 + gN ((stdI x ∧ stdI y) ∧ (nI (pipS x.toNatClampNeg) ≤ IC 100 10 ∧ nI (pipS y.toNatClampNeg) ≤ IC 100 10)) (2 * rcF O x.toNatClampNeg y.toNatClampNeg))) (k2 + (120 + gN ((stdI x ∧ stdI y) ∧ (nI (pipS x.toNatClampNeg) ≤ IC 100 10 ∧ nI (pipS y.toNatClampNeg) ≤ IC 100 10)) (1153 * rcF O x.toNatClampNeg y.toNatClampNeg))) 1420 (LB b ax ay ao (nI n)) [] := by
    intro c P1 O1 I1 J1 pl1 hg hsd hfr hrf hcnd
    obtain ⟨I', A', J', rfl, rfl, rfl, q0, q1, q2, q3, q4, q5, q6⟩ := hrf
    have fB := gr_B iv hg hsd
    refine ⟨_, I', A', J', rfl, rfl, rfl, q0, kc _ _ _ _ _ _ _ _ (INV.mk (t_bear iv eg tb tm tt tl ts tr fB (fun k h1 h2 => q3 k (by omega) h2) (fun q h => q5 q h) q1 q2 (tp.cg q4 (hg.2.1 122 1 (by omega)) q6 rfl)) (pot_sh (c := 14) (s := 120) h1 h2 hfl hfr (by rw [gN_t hcnd]) (by rw [gN_t hcnd]) (by decide) (by decide)))⟩
  rcases hΘ with ⟨rfl, v, ⟨hst, hpp, hsu, hz, P1, O1, I1, J1, hg, hsd, hfr, hpg⟩, rfl⟩ | ⟨E, he, rfl, rfl⟩
  · have hpl := (hpip hst).mp hpp
    have fB := gr_B iv hg hsd
    obtain ⟨I3, A3, J3, len, txt, rfl, -, hv, hl, hp, h122, htx, fB3⟩ := pg_B fB hpg
    cases hv
    have hz2 : ¬ (x = 0 ∧ y = 0) := fun z => hz ((hzero hst).mpr z)
    obtain ⟨I', A', J', len', txt', rfl, rfl, rfl, q0, q1, q2, q3, q4, q5, q6, q7, q8⟩ := hΦ.2.2.2.2 ⟨hst.1, hpl.1⟩ ⟨hst.2, hpl.2⟩ hsu hz2
    have hp2 : prT (raC x.toNatClampNeg y.toNatClampNeg) 24 len' txt' := by
      obtain ⟨s, hs, ex'⟩ := std_of hst.1
      obtain ⟨t, ht, ey'⟩ := std_of hst.2
      unfold raU raP at q5
      by_cases x0 : x = 0
      · rw [if_pos x0, if_pos x0] at q5
        have y0 : y.toNatClampNeg ≠ 0 := fun z => hz ⟨by rw [x0]; rfl, z⟩
        rw [show x.toNatClampNeg = 0 by rw [x0]; rfl, raC_0 y0]
        have := prT_k q5 24
        rw [Nat.mul_one, Nat.zero_add] at this
        exact this
      · rw [if_neg x0, if_neg x0] at q5
        have xn : x.toNatClampNeg ≠ 0 := fun z => x0 (by
          rw [ex', nI_clamp (by have := hs.1; omega)] at z
          rw [ex', z]
          rfl)
        rw [raC_S xn]
        have := prT_k q5 1
        rw [Nat.pow_one] at this
        exact this
    obtain ⟨tp2, e⟩ := t_page hp hp2 hl h122 htx q3 q6
    subst e
    refine ⟨_, _, _, _, rfl, rfl, rfl, q0, fun _ => rfl, kc _ _ _ _ _ _ _ _ (INV.mk (t_bear iv eg tb tm tt tl ts tr fB3 (fun k h1 h2 => q7 k (by omega) h2) (fun q h => q8 q h) q1 q2 tp2) (pot_sh (c := 14) (s := 120) h1 h2 hfl hfr (by rw [gN_t ⟨hst, hpp⟩]) (by rw [gN_t ⟨hst, hpp⟩]) (by decide) (by decide)))⟩
  · rcases he with ⟨rfl, rfl, ⟨rfl, he⟩ | ⟨rfl, hst, he⟩⟩ | ⟨rfl, hst, hpp, hsu, P1, O1, I1, J1, rfl, hg, hsd, hfr⟩ | ⟨rfl, hst, hpp, hsu, hz, P1, O1, I1, J1, rfl, hg, hsd, hfr⟩
    · obtain ⟨rfl, rfl, rfl⟩ := hΦ.1 he
      refine ⟨_, _, _, _, rfl, rfl, rfl, rfl, fun z => absurd z (by decide), kc _ _ _ _ _ _ _ _ (INV.mk (T.thr _) ?_)⟩
      rw [gN_f (fun z => he z.1), gN_f (fun z => he z.1)]
      exact pot_st h1 h2 (by decide) (by decide)
    · obtain ⟨rfl, rfl, rfl⟩ := hΦ.2.1 hst (fun z => he ((hpip hst).mpr z))
      refine ⟨_, _, _, _, rfl, rfl, rfl, rfl, fun z => absurd z (by decide), kc _ _ _ _ _ _ _ _ (INV.mk (T.thr _) ?_)⟩
      rw [gN_f (fun z => he z.2), gN_f (fun z => he z.2)]
      exact pot_st h1 h2 (by decide) (by decide)
    · have hpl := (hpip hst).mp hpp
      obtain ⟨v, I', A', J', y1, y2, y3, y4, y5⟩ := hthr 2 P1 O1 I1 J1 pl' hg hsd hfr (hΦ.2.2.1 ⟨hst.1, hpl.1⟩ ⟨hst.2, hpl.2⟩ hsu) ⟨hst, hpp⟩
      exact ⟨v, I', A', J', y1, y2, y3, y4, fun z => absurd z (by decide), y5⟩
    · have hpl := (hpip hst).mp hpp
      obtain ⟨v, I', A', J', y1, y2, y3, y4, y5⟩ := hthr 3 P1 O1 I1 J1 pl' hg hsd hfr (hΦ.2.2.2.1 ⟨hst.1, hpl.1⟩ ⟨hst.2, hpl.2⟩ hsu ((hzero hst).mp hz)) ⟨hst, hpp⟩
      exact ⟨v, I', A', J', y1, y2, y3, y4, fun z => absurd z (by decide), y5⟩
end