/-! say -/
section
variable {X : Ctx} {b ax ay ao L n g k1 k2 : Nat} {xs0 : Nat → Int32} {I A : Nat → Nat → Int32} {J : Nat → Nat → Int64} {P O : Nat → Nat → Option Nat} {IC AC : Nat → Nat → Int32} {JC : Nat → Nat → Int64} {pl : List Nat} {U : Nat → Int64} {I' A' IC' AC' I2 A2 : Nat → Nat → Int32} {O2 : Nat → Nat → Option Nat} {JC' J' : Nat → Nat → Int64} {pl' : List Nat}
theorem say_v {n0 m a c : Nat} {B : Nat → Nat} {τ : TB} {res : Except (Nat × Nat) MV} {r : Option Value} {σ' : HS} (h : sayC P O IC AC JC pl n0 m a c B τ res r σ' pl') : ∃ v, r = some (.int v) := by
  obtain ⟨I1, A1, -, -, h⟩ := h
  cases res with
  | error fp => exact ⟨_, h.2.2.2.2⟩
  | ok mv =>
    obtain ⟨-, -, -, -, P2, I2, A2, J2, -, v, I3, A3, J3, -, h⟩ := h
    rcases h with h | h | h
    · exact ⟨_, h.2.1⟩
    · exact ⟨_, h.2.2.1⟩
    · exact ⟨_, h.2.2.1⟩
theorem s_say (F : FLx X cL_law RL 7) (hR : RmL X) (hC : RmC X) (S : Scr X b L xs0) (hn : n + 5 < L) (T : TIE g I A J P O IC AC JC pl) (h1 : k1 ≤ potC n g (frT O)) (h2 : k2 ≤ potS n g (frT O)) (kc : KC X b ax ay ao n) : LA X ax ay ao (mS I A J) plM (mC P O IC AC JC) pl U k1 k2 (strt 9) (LB b ax ay ao (nI n)) [] := by
  obtain ⟨p1, p2⟩ := pot_le (n := n) (f := frT O) (by have := S.2.2.2; omega) T.g6
  obtain ⟨m, B, sz, Lv, p, hd, mt, τ, iv, eg, tb, tm, tt, tp, tl, ts, tr⟩ := id T
  have hc := hC.1
  have hs := hC.2.1
  have i100 : 100 ∈ pl := iv.2.1 _ (by decide)
  generalize ex : xs0 (n + 1) = x
  generalize ea : xs0 (n + 2) = a
  generalize eb : xs0 (n + 3) = c
  obtain ⟨c1, c2, c3, c4, c5, c6⟩ := id tb
  obtain ⟨hsz, e1, e2, e3, e4⟩ := id tt
  have hg6 := T.g6
  have hgw : ((1 ≤ a ∧ a ≤ 6) ∧ (1 ≤ c ∧ c ≤ 6)) → (1 ≤ min a.toNatClampNeg c.toNatClampNeg ∧ min a.toNatClampNeg c.toNatClampNeg ≤ 6) ∧ (1 ≤ max a.toNatClampNeg c.toNatClampNeg ∧ max a.toNatClampNeg c.toNatClampNeg ≤ 6) := fun hd2 => by
    obtain ⟨x, y, rfl, rfl, hx, hy⟩ := dice_n hd2
    rw [nI_clamp (by omega), nI_clamp (by omega)]
    omega
  have h26 : ∀ g', g' ≤ 6 → 2 ^ g' ≤ 64 := fun g' h => Nat.le_trans (Nat.pow_le_pow_right (by decide) h) (by decide)
  refine w_say F hR S hn (h_say (p0 := xs0 (n + 1)) (p1 := xs0 (n + 2)) (p2 := xs0 (n + 3)) (c_11_say (xl X) hC.2.2 iv.1 IC AC JC iv.2.1 (xs0 (n + 1)) (xs0 (n + 2)) (xs0 (n + 3)) sz hsz e2 c1 c2 iv.2.2.2.1 iv.2.2.2.2.2.2.2.2.2.2.2.2 c6 c4) i100 rfl (fun r σ' pl' h => say_v h.2.2) (fun E σ' pl' h => h.2.2.imp And.left And.left)) i100 ?_ ?_ ?_
  · rw [ex, ea, eb]
    have := gN_le (c := (((0 ≤ x ∧ x ≤ IC 120 1) ∧ ((1 ≤ a ∧ a ≤ 6) ∧ (1 ≤ c ∧ c ≤ 6))) ∧ (undC IC → dueC IC a c)) ∧ ∃ mv, movesF (AC 121) x.toNatClampNeg 9 mv0 (endT bBl (AC 121) x.toNatClampNeg 0) = .ok mv) (v := 2 * ((wkF m (min a.toNatClampNeg c.toNatClampNeg) (max a.toNatClampNeg c.toNatClampNeg) B g).2.2.2.2 - g)) (M := 12) (fun z => by
      have := (wk_I6 (g := g) c1 (hgw z.1.1.2).1 (hgw z.1.1.2).2 c2 hg6).2
      omega)
    omega
  · rw [ex, ea, eb]
    have := gN_le (c := (((0 ≤ x ∧ x ≤ IC 120 1) ∧ ((1 ≤ a ∧ a ≤ 6) ∧ (1 ≤ c ∧ c ≤ 6))) ∧ (undC IC → dueC IC a c)) ∧ ∃ mv, movesF (AC 121) x.toNatClampNeg 9 mv0 (endT bBl (AC 121) x.toNatClampNeg 0) = .ok mv) (v := 576 * (2 ^ (wkF m (min a.toNatClampNeg c.toNatClampNeg) (max a.toNatClampNeg c.toNatClampNeg) B g).2.2.2.2 - 2 ^ g)) (M := 36864) (fun z => Nat.le_trans (Nat.mul_le_mul_left _ (Nat.le_trans (Nat.sub_le _ _) (h26 _ (wk_I6 (g := g) c1 (hgw z.1.1.2).1 (hgw z.1.1.2).2 c2 hg6).2))) (by decide))
    omega
  rw [ex, ea, eb]
  intro k σ' pl' U' hΘ _
  refine ⟨7, _, by decide, c_say (xl X) I A J x a c m sz B hsz e1 c1 c3 c2 c5, ?_⟩
  intro r σR plR hΦ
  rw [e3, show I 0 35 = IC 120 1 by rw [e1, e2]] at hΦ
  rcases hΘ with ⟨rfl, v, ⟨hx0, hdu, hsy⟩, rfl⟩ | ⟨E, ⟨rfl, rfl, he⟩, rfl, rfl⟩
  · have hmay := (t_due tm a c).mpr hdu
    have hΨ2 := hΦ.2.2 hx0 hmay
    clear hΦ
    obtain ⟨rfl, I9, A9, rfl, hΨ2⟩ := hΨ2
    generalize hres : movesF (AC 121) x.toNatClampNeg 9 mv0 (endT bBl (AC 121) x.toNatClampNeg 0) = res at *
    obtain ⟨I1, A1, fT, fA, hsy⟩ := hsy
    have fI : ∀ q k, q ≠ 104 → q ≠ 132 → q ≠ 106 → I1 q k = IC q k := fun q k h1 h2 h3 => fT q k (fun z => h1 z.1) h2 h3
    cases res with
    | error fp =>
      obtain ⟨-, h8, rfl, rfl, hv⟩ := hsy
      cases hv
      obtain ⟨hf0, hf10, -, rfl, fr, h42, fA3⟩ := hΨ2
      have hI3 : ∀ k, (0 < k ∧ k < 35) ∨ 47 < k → I9 0 k = I 0 k := fun k hk => (fr k (by omega) (by omega)).trans ((up2_k (by omega)).trans (begI_k (by omega)))
      have hnz : ¬ nI fp.1 = 0 := fun z => hf0 ((nI_z (by omega)).mp z)
      refine ⟨_, _, _, _, rfl, rfl, rfl, (fr 0 (by omega) (by omega)).trans rfl, fun _ => ?_, kc _ _ _ _ _ _ _ _ (INV.mk (g := g) ⟨m, B, 0, Lv, p, hd, mt, τ, iv.fr (fun q k hq => ?_) (fA 118 (by decide) (by decide) (by decide)), eg, tb.cg (hI3 2 (by omega)) (fI 130 1 (by decide) (by decide) (by decide)) (fA3 1 (by decide) (by decide) (by decide)) (fA 131 (by decide) (by decide) (by decide)), tm.cg (fun k h1 h2 => hI3 k (by omega)) (fun k => fI 114 k (by decide) (by decide) (by decide)) (fA3 30 (by decide) (by decide) (by decide)) (fA 115 (by decide) (by decide) (by decide)), ⟨by omega, (fr 35 (by omega) (by omega)).trans rfl, rfl, ?_, h42.trans h8.symm⟩, tp.cg (hI3 61 (by omega)) (fI 122 1 (by decide) (by decide) (by decide)) (fA3 59 (by decide) (by decide) (by decide)) (fA 123 (by decide) (by decide) (by decide)), ⟨tl.1.cg (hI3 55 (by omega)) (hI3 56 (by omega)) (fun q h1 h2 => fA3 q (by omega) (by omega) (by omega)), tl.2.1, (fI 100 10 (by decide) (by decide) (by decide)).trans tl.2.2⟩, ts.fr (hI3 19 (by omega)) (fA3 18 (by decide) (by decide) (by decide)) (fI 102 1 (by decide) (by decide) (by decide)) (fI 102 2 (by decide) (by decide) (by decide)) (fun q k hq => ?_) (fun q hq => fA q (by omega) (by omega) (by omega)), tr.fr (hI3 16 (by omega)) (hI3 17 (by omega)) (fun z => qSt.of (hI3 20 (by omega)).symm z) (fA3 13 (by decide) (by decide) (by decide)) (fA3 14 (by decide) (by decide) (by decide)) (fA3 15 (by decide) (by decide) (by decide)) (fI 110 5 (by decide) (by decide) (by decide)) (fI 110 6 (by decide) (by decide) (by decide)) (fI 110 7 (by decide) (by decide) (by decide)) (fun q hq => fA q (by omega) (by omega) (by omega))⟩ ?_)⟩
      · rw [if_neg hnz]; rfl
      · rw [up2_p (by omega), fI _ _ (by omega) (by omega) (by omega)]
      · rw [fA3 34 (by decide) (by decide) (by decide), fA 121 (by decide) (by decide) (by decide)]; exact e3
      · rw [up2_p (by omega), fI _ _ (by omega) (by omega) (by omega)]
      · rw [gN_f (fun z => by obtain ⟨_, mv, z⟩ := z; cases z), gN_f (fun z => by obtain ⟨_, mv, z⟩ := z; cases z)]
        exact pot_st h1 h2 (by decide) (by decide)
    | ok mv =>
      obtain ⟨h1n, -, h8, hmv, P2, I2, A2, J2, hgs, v2, I3, A3, J3, hnz, hcase⟩ := hsy
      obtain ⟨-, P2', I2', A2', J2', e5, hz, hcl, htb, hbd⟩ := hgs
      have eP : P2 = P2' := congrArg (fun s : HS => s.2.2.2.1) e5
      have eI : I2 = I2' := congrArg (fun s : HS => s.2.2.1) e5
      have eA : A2 = A2' := congrArg (fun s : HS => s.2.2.2.2.1) e5
      have eJ : J2 = J2' := congrArg (fun s : HS => s.2.2.2.2.2.1) e5
      subst eP eI eA eJ
      obtain ⟨-, I3', A3', J3', e6, n1, n2, n3, n4, n5, n6, n7⟩ := hnz
      have eI : I3 = I3' := congrArg (fun s : HS => s.2.2.1) e6
      have eA : A3 = A3' := congrArg (fun s : HS => s.2.2.2.2.1) e6
      have eJ : J3 = J3' := congrArg (fun s : HS => s.2.2.2.2.2.1) e6
      subst eI eA eJ
      obtain ⟨fY, fA9, len, g0, cnt, o, TT, WW, hp, e17, e16, htR, htS, hr⟩ := hΨ2
      obtain ⟨hx, hy⟩ := hgw hx0.2
      obtain ⟨ew, hs2⟩ := all_T (g0 := g) c1 hx hy c2 (by omega) hp
      obtain ⟨ec, eTW⟩ := tab_u hs2 htS
      have hcn := tb_cnt htb
      obtain ⟨z1, z2, z3, z4, z5, z6⟩ := hz
      have hab : (a.toNatClampNeg = min a.toNatClampNeg c.toNatClampNeg ∧ c.toNatClampNeg = max a.toNatClampNeg c.toNatClampNeg) ∨ (a.toNatClampNeg = max a.toNatClampNeg c.toNatClampNeg ∧ c.toNatClampNeg = min a.toNatClampNeg c.toNatClampNeg) := by omega
      have hR9 : ∀ k, k < mv.1 → A2 109 k = if mv.2.2.2 k = true then 1 else 0 := fun k hk => by rw [z3 109 (by decide) (by decide)]; exact (hmv.2.2 k hk).2.2.2.2
      obtain ⟨rv, hrv⟩ : ∃ rv, r = some (.int rv) := by
        rcases hr with h | ⟨first, -, -, -, h | ⟨-, -, k9, h, -⟩⟩
        · exact ⟨_, h.2.1⟩
        · exact ⟨_, h.2.1⟩
        · exact ⟨_, h⟩
      subst hrv
      have hfin := say_t (rv := rv) (v := v2) (s8 := I3 110 8) (f42 := I9 0 42) (n := x.toNatClampNeg) (R := A2 109) (T := (wkF m (min a.toNatClampNeg c.toNatClampNeg) (max a.toNatClampNeg c.toNatClampNeg) B g).2.2.1) (T' := TT) (cnt := (wkF m (min a.toNatClampNeg c.toNatClampNeg) (max a.toNatClampNeg c.toNatClampNeg) B g).2.1) (wt := (wkF m (min a.toNatClampNeg c.toNatClampNeg) (max a.toNatClampNeg c.toNatClampNeg) B g).1) hx.1 (by omega) hab (fun k hk => (hmv.2.2 k hk).2.1) hp ew hcn (fun i hi => (eTW i hi).1) (fun i j h1 h2 => htS.2.2 i j h1 (by omega)) hR9 (fun y1 y2 => by have := n5 y1 y2; injection this with this; injection this) (fun y1 => ⟨by have := (n6 y1).1; injection this with this; injection this, (n6 y1).2⟩) (fun y1 y2 y3 => ⟨by have := (n7 y1 y2 y3).1; injection this with this; injection this, (n7 y1 y2 y3).2⟩) (by
        rcases hr with ⟨y1, y2, y3⟩ | ⟨first, y0, y1, y2, ⟨y3, y4, y5⟩ | ⟨y3, y4, k9, y5, y6, y7, y8⟩⟩
        · exact Or.inl ⟨y1, by injection y2 with y2; injection y2, y3⟩
        · exact Or.inr ⟨first, y0, y1, y2, Or.inl ⟨y3, by injection y4 with y4; injection y4, y5⟩⟩
        · exact Or.inr ⟨first, y0, y1, y2, Or.inr ⟨y3, y4, k9, by injection y5 with y5; injection y5, by omega, y7, fun i h1 h2 => y8 i h1 (by omega)⟩⟩)
      have hI9 : ∀ k, k < 8 ∨ (12 < k ∧ k < 16) ∨ (17 < k ∧ k < 35) ∨ 47 < k → 0 < k → I9 0 k = I 0 k := fun k hk h0 => (fY k (by omega) (by omega)).trans ((up2_k (by omega)).trans (begI_k (by omega)))
      have hq : ¬ qSt I9 := by
        unfold qSt
        rw [hI9 20 (by omega) (by omega)]
        rintro ⟨y0, y6, y3⟩
        rcases hmay with y | y | y
        · exact y0 y
        · exact y6 y
        · exact y3 y.1
      have hgg := wk_g m (min a.toNatClampNeg c.toNatClampNeg) (max a.toNatClampNeg c.toNatClampNeg) B g
      have hI9' : ∀ k, k = 2 ∨ (18 < k ∧ k < 34) ∨ 48 < k → I9 0 k = I 0 k := fun k hk => hI9 k (by omega) (by omega)
      have hA9 : ∀ q, q = 1 ∨ q = 18 ∨ q = 30 ∨ 48 < q → A9 q = A q := fun q hq => fA9 q (by omega) (by omega) (by omega) (by omega) (by omega) (by omega) (by omega) (by omega) (by omega) (by omega) (by omega) (by omega)
      have f3I : ∀ q k, q ≠ 104 → q ≠ 132 → q ≠ 106 → q ≠ 110 → I3 q k = IC q k := fun q k y1 y2 y3 y4 => (n1 q k (fun y => y4 y.1)).trans ((z2 q k (fun y => y4 y.1)).trans (fI q k y1 y2 y3))
      have f3A : ∀ q, q ≠ 107 → q ≠ 108 → q ≠ 109 → q ≠ 112 → q ≠ 131 → q < 300 ∨ 314 ≤ q → A3 q = AC q := fun q y1 y2 y3 y4 y5 y6 => (n2 q y4 y5).trans ((z3 q y5 y6).trans (fA q y1 y2 y3))
      have fin : ∀ IC' : Nat → Nat → Int32, (∀ q k, q ≠ 104 → q ≠ 120 → IC' q k = I3 q k) → IC' 120 1 = 0 → I9 0 42 = IC' 104 8 → TIE (wkF m (min a.toNatClampNeg c.toNatClampNeg) (max a.toNatClampNeg c.toNatClampNeg) B g).2.2.2.2 I9 A9 J P2 O IC' A3 J3 pl' := by
        intro IC' y1 y2 y3
        have fG : frG P IC AC JC pl P2 IC' A3 J3 pl' := ⟨z1, fun q k x1 x2 x3 x4 x5 => (y1 q k x1 x5).trans (f3I q k x1 x2 x3 x4), f3A, fun q x1 x2 => (n3 q x1).trans (z4 q x1 x2), z5, z6⟩
        have htb3 : tbS P2 IC' A3 J3 pl' m (wkF m (min a.toNatClampNeg c.toNatClampNeg) (max a.toNatClampNeg c.toNatClampNeg) B g) := htb.cg (fun k x1 x2 => (y1 110 k (by decide) (by decide)).trans (n1 110 k (by omega))) (n2 _ (by omega) (by omega)) (n3 _ (by omega))
        obtain ⟨tr2, -⟩ := t_tab (g1 := g) c1 hx hy (by omega) c2 hp e17 e16 hq htR htS htb3
        refine t_play iv tb tm tp tl ts fG hcl n4 ⟨Nat.zero_le _, (fY 35 (by omega) (by omega)).trans rfl, y2, ?_, y3⟩ hI9' hA9 tr2
        rw [fA9 34 (by omega) (by omega) (by omega) (by omega) (by omega) (by omega) (by omega) (by omega) (by omega) (by omega) (by omega) (by omega), f3A 121 (by omega) (by omega) (by omega) (by omega) (by omega) (by omega)]
        exact e3
      have i104 : I3 104 8 = -1 := (n1 104 8 (by omega)).trans ((z2 104 8 (by omega)).trans h8)
      have pot : k1 + (12 + gN ((((0 ≤ x ∧ x ≤ IC 120 1) ∧ ((1 ≤ a ∧ a ≤ 6) ∧ (1 ≤ c ∧ c ≤ 6))) ∧ (undC IC → dueC IC a c)) ∧ ∃ mv1, Except.ok mv = (.ok mv1 : Except (Nat × Nat) MV)) (2 * ((wkF m (min a.toNatClampNeg c.toNatClampNeg) (max a.toNatClampNeg c.toNatClampNeg) B g).2.2.2.2 - g))) ≤ potC (n + 6) (wkF m (min a.toNatClampNeg c.toNatClampNeg) (max a.toNatClampNeg c.toNatClampNeg) B g).2.2.2.2 (frT O) ∧ k2 + (100 + gN ((((0 ≤ x ∧ x ≤ IC 120 1) ∧ ((1 ≤ a ∧ a ≤ 6) ∧ (1 ≤ c ∧ c ≤ 6))) ∧ (undC IC → dueC IC a c)) ∧ ∃ mv1, Except.ok mv = (.ok mv1 : Except (Nat × Nat) MV)) (576 * (2 ^ (wkF m (min a.toNatClampNeg c.toNatClampNeg) (max a.toNatClampNeg c.toNatClampNeg) B g).2.2.2.2 - 2 ^ g))) ≤ potS (n + 6) (wkF m (min a.toNatClampNeg c.toNatClampNeg) (max a.toNatClampNeg c.toNatClampNeg) B g).2.2.2.2 (frT O) :=
        pot_gr (c := 12) (s := 100) h1 h2 hgg (by rw [gN_t ⟨⟨hx0, hdu⟩, mv, rfl⟩]) (by rw [gN_t ⟨⟨hx0, hdu⟩, mv, rfl⟩]) (by decide) (by decide)
      have th0 : I9 0 0 = 0 := (fY 0 (by omega) (by omega)).trans rfl
      rcases hcase with ⟨v1, hv, rfl⟩ | ⟨v1, s0, hv, rfl⟩ | ⟨v1, s0, hv, rfl⟩
      · cases hv
        obtain ⟨-, er, e42⟩ : v2 = -1 ∧ rv = -4 ∧ I9 0 42 = nI x.toNatClampNeg := by
          rcases hfin with h | h | h
          · exact h
          · exact absurd v1 h.1
          · exact absurd v1 h.1
        exact ⟨rv, I9, A9, J, rfl, rfl, rfl, th0, fun _ => by rw [er]; rfl, kc _ _ _ _ _ _ _ _ (INV.mk (fin (up2 (up2 (up2 I3 104 7 3) 104 8 (nI x.toNatClampNeg)) 120 1 0) (fun q k y1 y2 => by rw [up2_p y2, up2_p y1, up2_p y1]) rfl e42) pot)⟩
      · cases hv
        obtain ⟨-, -, er, e42⟩ : ¬ v2 = -1 ∧ I3 110 8 = 0 ∧ rv = -5 ∧ I9 0 42 = nI x.toNatClampNeg := by
          rcases hfin with h | h | h
          · exact absurd h.1 v1
          · exact h
          · exact absurd s0 h.2.1
        exact ⟨rv, I9, A9, J, rfl, rfl, rfl, th0, fun _ => by rw [er]; rfl, kc _ _ _ _ _ _ _ _ (INV.mk (fin (up2 (up2 (up2 I3 104 7 4) 104 8 (nI x.toNatClampNeg)) 120 1 0) (fun q k y1 y2 => by rw [up2_p y2, up2_p y1, up2_p y1]) rfl e42) pot)⟩
      · cases hv
        obtain ⟨-, -, er, e42⟩ : ¬ v = -1 ∧ ¬ I3 110 8 = 0 ∧ rv = v ∧ I9 0 42 = -1 := by
          rcases hfin with h | h | h
          · exact absurd h.1 v1
          · exact absurd h.2.1 s0
          · exact h
        exact ⟨rv, I9, A9, J, rfl, rfl, rfl, th0, fun _ => by rw [er]; rfl, kc _ _ _ _ _ _ _ _ (INV.mk (fin (up2 I3 120 1 0) (fun q k y1 y2 => by rw [up2_p y2]) rfl (e42.trans i104.symm)) pot)⟩
  · rcases he with ⟨rfl, he⟩ | ⟨rfl, hx0, he⟩
    · obtain ⟨rfl, rfl, rfl⟩ := hΦ.1 he
      refine ⟨_, _, _, _, rfl, rfl, rfl, rfl, fun z => absurd z (by decide), kc _ _ _ _ _ _ _ _ (INV.mk (T.thr _) ?_)⟩
      rw [gN_f (fun z => he z.1.1), gN_f (fun z => he z.1.1)]
      exact pot_st h1 h2 (by decide) (by decide)
    · obtain ⟨rfl, rfl, rfl⟩ := hΦ.2.1 hx0 (fun z => he ((t_due tm a c).mp z))
      refine ⟨_, _, _, _, rfl, rfl, rfl, rfl, fun z => absurd z (by decide), kc _ _ _ _ _ _ _ _ (INV.mk (T.thr _) ?_)⟩
      rw [gN_f (fun z => he z.1.2), gN_f (fun z => he z.1.2)]
      exact pot_st h1 h2 (by decide) (by decide)
end