/-! plays -/
section
variable {X : Ctx} {b ax ay ao L n g k1 k2 : Nat} {xs0 : Nat → Int32} {I A : Nat → Nat → Int32} {J : Nat → Nat → Int64} {P O : Nat → Nat → Option Nat} {IC AC : Nat → Nat → Int32} {JC : Nat → Nat → Int64} {pl : List Nat} {U : Nat → Int64} {I' A' IC' AC' : Nat → Nat → Int32} {P' : Nat → Nat → Option Nat} {JC' : Nat → Nat → Int64} {pl' : List Nat}
theorem gN_le {c : Prop} {v M : Nat} (h : c → v ≤ M) : gN c v ≤ M := by
  by_cases z : c
  · rw [gN_t z]; exact h z
  · rw [gN_f z]; exact Nat.zero_le _
theorem boS.cg {Lv : Nat} (h : boS I A Lv) (e55 : I' 0 55 = I 0 55) (e56 : I' 0 56 = I 0 56) (hA : ∀ q, 49 ≤ q → q ≤ 53 → A' q = A q) : boS I' A' Lv := by
  unfold boS rdyS dnS at *
  rw [e55, e56, hA 49 (by decide) (by decide), hA 50 (by decide) (by decide), hA 51 (by decide) (by decide), hA 52 (by decide) (by decide), hA 53 (by decide) (by decide)]
  exact h
theorem sdI.j (h : sdI O JC) (e : ∀ q, 1000 ≤ q → JC' q = JC q) : sdI O JC' := by
  have hc : ∀ s, clJ JC' s = clJ JC s := fun s => by unfold clJ; funext k; rw [e _ (by omega)]
  unfold sdI dnC ndC at *
  simp only [hc]
  exact h
theorem t_due (tm : tMt I A IC AC) (a c : Int32) : mayP I a c ↔ (undC IC → dueC IC a c) := by
  obtain ⟨a0, a1, a2, a3, a4, a5, a6, a7, a8, a9, -⟩ := tm
  unfold mayP undC dueC
  rw [a1]
  by_cases h3 : I 0 20 = 3
  · obtain ⟨d1, d2, d3⟩ := a9 h3
    rw [d1, d2, h3, d_mx, d_mn]
    generalize I 0 28 = x at *
    generalize I 0 29 = y at *
    constructor
    · rintro (h | h | ⟨-, h⟩)
      · exact absurd h (by decide)
      · exact absurd h (by decide)
      · intro _
        refine ⟨rfl, ?_⟩
        rcases h with ⟨rfl, rfl⟩ | ⟨rfl, rfl⟩
        · by_cases hz : a ≤ c
          · rw [if_pos hz, if_pos hz]; exact ⟨by grind, by grind⟩
          · rw [if_neg hz, if_neg hz]; exact ⟨rfl, rfl⟩
        · rw [if_pos d3, if_pos d3]; exact ⟨rfl, rfl⟩
    · intro h
      obtain ⟨-, e1, e2⟩ := h ⟨by decide, by decide⟩
      refine Or.inr (Or.inr ⟨rfl, ?_⟩)
      by_cases hz : a ≤ c
      · rw [if_pos hz] at e1 e2; exact Or.inr ⟨e2, e1⟩
      · rw [if_neg hz] at e1 e2; exact Or.inl ⟨e1, e2⟩
  · constructor
    · rintro (h | h | ⟨h, -⟩)
      · exact fun z => absurd h z.1
      · exact fun z => absurd h z.2
      · exact absurd h h3
    · intro h
      by_cases h0 : I 0 20 = 0
      · exact Or.inl h0
      · by_cases h6 : I 0 20 = 6
        · exact Or.inr (Or.inl h6)
        · exact absurd (h ⟨h0, h6⟩).1 h3
/-- the class's frame about the results' working out -/
def frG (P : Nat → Nat → Option Nat) (IC AC : Nat → Nat → Int32) (JC : Nat → Nat → Int64) (pl : List Nat) (P' : Nat → Nat → Option Nat) (IC' AC' : Nat → Nat → Int32) (JC' : Nat → Nat → Int64) (pl' : List Nat) : Prop := (∀ q k, ¬ (q = 110 ∧ (k = 3 ∨ k = 4)) → P' q k = P q k) ∧ (∀ q k, q ≠ 104 → q ≠ 132 → q ≠ 106 → q ≠ 110 → q ≠ 120 → IC' q k = IC q k) ∧ (∀ q, q ≠ 107 → q ≠ 108 → q ≠ 109 → q ≠ 112 → q ≠ 131 → q < 300 ∨ 314 ≤ q → AC' q = AC q) ∧ (∀ q, q ≠ 111 → q < 300 ∨ 314 ≤ q → JC' q = JC q) ∧ (∀ q, q ∈ pl → q ∈ pl') ∧ (∀ q, q ∈ pl' → q ∈ pl ∨ (300 ≤ q ∧ q < 314))
theorem frG.inv {m : Nat} {τ : TB} (f : frG P IC AC JC pl P' IC' AC' JC' pl') (iv : invC P O IC AC JC pl g) (hcl : clC P' O pl') (ht : tbS P' IC' AC' JC' pl' m τ) : invC P' O IC' AC' JC' pl' τ.2.2.2.2 := by
  obtain ⟨f1, f2, f3, f4, f5, f6⟩ := f
  obtain ⟨a1, a2, a3, a4, a5, a6, a7, a8, a9, b1, b2, b3, b4⟩ := iv
  refine ⟨fun q k h => ?_, fun q hq => f5 q (a2 q hq), fun q h => ?_, hcl, fun k hk => ?_, fun k hk => ?_, fun k => ?_, ?_, ?_, b1.j (fun q hq => f4 q (by omega) (by omega)), ?_, ?_, ht.1, ht.2.1, ht.2.2.1⟩
  · rw [f1 q k (fun z => ?_)]
    · exact a1 q k h
    · obtain ⟨rfl, rfl | rfl⟩ := z <;> exact h rfl
  · have : P' q = P q := by
      funext k
      exact f1 q k (fun z => by obtain ⟨rfl, -⟩ := z; exact absurd h (by decide))
    rw [this]
    exact a3 q h
  · rcases a5 k hk with ⟨c1, c2, c3⟩ | ⟨c1, c2, c3⟩
    · exact Or.inl ⟨c1, f5 _ c2, f5 _ c3⟩
    · exact Or.inr ⟨c1, fun z => (f6 _ z).elim c2 (fun y => by omega), fun z => (f6 _ z).elim c3 (fun y => by omega)⟩
  · rcases a6 k hk with ⟨c1, c2, c3⟩ | ⟨c1, c2, c3⟩
    · exact Or.inl ⟨c1, f5 _ c2, f5 _ c3⟩
    · exact Or.inr ⟨c1, fun z => (f6 _ z).elim c2 (fun y => by omega), fun z => (f6 _ z).elim c3 (fun y => by omega)⟩
  · funext j
    rw [f2 _ _ (by omega) (by omega) (by omega) (by omega) (by omega), a7 k]
  · rw [f3 118 (by decide) (by decide) (by decide) (by decide) (by decide) (Or.inl (by decide))]; exact a8
  · unfold pwT at *
    rw [f4 119 (by decide) (Or.inl (by decide)), f4 145 (by decide) (Or.inl (by decide))]
    exact a9
  · rw [f4 141 (by decide) (Or.inl (by decide))]; exact b2
  · rw [f4 143 (by decide) (Or.inl (by decide))]; exact b3
/-- the results of both sides are the same -/
theorem t_tab {m x y len g0 g1 cnt : Nat} {B : Nat → Nat} {o : Nat → Nat} {T : Nat → Nat → Nat} {W : Nat → Nat} (hm : m ≤ 1) (hx : 1 ≤ x ∧ x ≤ 6) (hy : 1 ≤ y ∧ y ≤ 6) (hxy : x ≤ y) (hok : okB B) (hp : plyP m x y B len g0) (e17 : I' 0 17 = nI len) (e16 : I' 0 16 = nI cnt) (hq : ¬ qSt I') (hr : tabR (A' 13) (A' 14) (A' 15) len cnt o T W) (hs : tabS m (rchN m x y g0 (L0F x y) B len) cnt T W) (ht : tbS P' IC' AC' JC' pl' m (wkF m x y B g1)) : tRs m m (wkF m x y B g1) I' A' P' IC' AC' JC' pl' ∧ (wkF m x y B g1).2.1 = cnt := by
  obtain ⟨-, hs2⟩ := all_T (g0 := g1) hm hx hy hok hxy hp
  obtain ⟨ec, eTW⟩ := tab_u hs2 hs
  have hlen : len ≤ 4 := hp.1
  generalize wkF m x y B g1 = τ at *
  obtain ⟨r1, r2, r3, r4, r5⟩ := hr
  have hL0 : 0 + L0F x y ≤ 4 := by unfold L0F; split <;> omega
  have w00 : wOK 0 0 := ⟨by decide, by decide⟩
  refine ⟨⟨hm, ⟨fun _ => rfl, fun z => absurd z hq⟩, ht, by rw [e16, ec], by rw [e17]; exact (nI_len (k := len) 4 (by omega) (by omega)).mpr hlen, fun i hi => ?_⟩, ec⟩
  obtain ⟨ek, eW⟩ := eTW i hi
  rw [ec] at hi
  obtain ⟨L1, hR1⟩ := hs2.1 i (by omega)
  obtain ⟨L2, hR2⟩ := hs.1 i hi
  obtain ⟨-, ok1, wk1⟩ := Rch_ok hm hx hy _ _ _ _ _ _ _ _ hR1 hL0 hok w00
  obtain ⟨-, ok2, -⟩ := Rch_ok hm hx hy _ _ _ _ _ _ _ _ hR2 hL0 hok w00
  rw [Nat.zero_add] at wk1
  have nz := Rch_nz _ _ _ _ _ _ _ _ hR1 (by omega) w00 (fun j hj => absurd hj (Nat.not_lt_zero _))
  rw [Nat.zero_add] at nz
  have eT := key_inj hm (okB_dg ok1) (okB_dg ok2) ek
  obtain ⟨e15, ho⟩ := r2 i hi
  refine ⟨o i, by omega, e15, ok1, fun k hk => by rw [eT k hk]; exact (r4 i hi k hk).1, fun k => ?_⟩
  have r5i := r5 i hi
  rw [← eW] at r5i
  generalize τ.2.2.2.1 i = w at *
  rw [e17]
  unfold mvO
  by_cases h0 : k < 0
  · rw [if_pos (Or.inl h0), if_neg (fun z => by grind)]
  · by_cases h4 : 4 ≤ k
    · rw [if_pos (Or.inr (Or.inl h4)), if_neg (fun z => by
        have := (nI_len (k := len) 4 (by omega) (by omega)).mpr hlen
        exact absurd (Int32.lt_of_lt_of_le z.2 this) (by grind))]
    · obtain ⟨j, hj, rfl⟩ := nI_of2 (x := k) (M := 3) (n := 3) rfl h0 (by grind)
      rw [nI_clamp (by omega)]
      have hge : (0 : Int32) ≤ nI j := (nI_gen (k := j) 0 (by omega) (by omega)).mpr (Nat.zero_le _)
      by_cases hjl : j < len
      · have hlt : nI j < nI len := (nI_ltI (by omega) (by omega)).mpr hjl
        rw [if_neg (fun z => z.elim h0 (fun z => z.elim h4 (nz j hjl))), if_pos ⟨hge, hlt⟩, show (4 : Int32) = nI 4 from rfl, nI_T, nI_A, nI_clamp (by omega), r5i j hjl]
      · rw [if_pos (Or.inr (Or.inr (wdg_0 wk1 (by omega) (by omega)))), if_neg (fun z => hjl ((nI_ltI (by omega) (by omega)).mp z.2))]
/-- the tie behind the results' working out -/
theorem t_play {m mt sz' Lv p hd : Nat} {B : Nat → Nat} {τ' : TB} (iv : invC P O IC AC JC pl g) (tb : tBd m B I A IC AC) (tm : tMt I A IC AC) (tp : tPg I A IC AC) (tl : tLv Lv I A J IC) (ts : tPs p hd I A O IC AC) (f : frG P IC AC JC pl P' IC' AC' JC' pl') (hcl : clC P' O pl') (hb : bdR (AC' 131) 0 B) (tt : tTp sz' I' A' IC' AC') (hI : ∀ k, k = 2 ∨ (18 < k ∧ k < 34) ∨ 48 < k → I' 0 k = I 0 k) (hA : ∀ q, q = 1 ∨ q = 18 ∨ q = 30 ∨ 48 < q → A' q = A q) (tr : tRs m mt τ' I' A' P' IC' AC' JC' pl') : TIE τ'.2.2.2.2 I' A' J P' O IC' AC' JC' pl' := by
  have iv2 := f.inv iv hcl tr.2.2.1
  obtain ⟨f1, f2, f3, f4, f5, f6⟩ := f
  have g2 : ∀ q k, 111 ≤ q → q ≠ 120 → q ≠ 132 → IC' q k = IC q k := fun q k h1 h2 h3 => f2 q k (by omega) h3 (by omega) (by omega) h2
  refine ⟨m, B, sz', Lv, p, hd, mt, τ', iv2, rfl, ?_, ?_, tt, ?_, ?_, ?_, tr⟩
  · obtain ⟨c1, c2, c3, c4, c5, c6⟩ := tb
    exact ⟨c1, c2, (hI 2 (by omega)).trans c3, (g2 130 1 (by omega) (by omega) (by omega)).trans c4, by rw [hA 1 (by omega)]; exact c5, hb⟩
  · have f114 : ∀ k, IC' 114 k = IC 114 k := fun k => g2 114 k (by omega) (by omega) (by omega)
    unfold tMt at *
    rw [f114, f114, f114, f114, f114, f114, f114, f114, f114, f114, f114, f114, f114, f3 115 (by omega) (by omega) (by omega) (by omega) (by omega) (by omega), hI 20 (by omega), hI 21 (by omega), hI 22 (by omega), hI 23 (by omega), hI 24 (by omega), hI 25 (by omega), hI 26 (by omega), hI 27 (by omega), hI 28 (by omega), hI 29 (by omega), hI 31 (by omega), hI 32 (by omega), hI 33 (by omega), hA 30 (by omega)]
    exact tm
  · obtain ⟨len, c1, c2, c3, c4⟩ := tp
    exact ⟨len, c1, (hI 61 (by omega)).trans c2, (g2 122 1 (by omega) (by omega) (by omega)).trans c3, by rw [hA 59 (by omega), f3 123 (by omega) (by omega) (by omega) (by omega) (by omega) (by omega)]; exact c4⟩
  · exact ⟨tl.1.cg (hI 55 (by omega)) (hI 56 (by omega)) (fun q h1 h2 => hA q (by omega)), tl.2.1, (f2 100 10 (by omega) (by omega) (by omega) (by omega) (by omega)).trans tl.2.2⟩
  · obtain ⟨a1, a2, a3, a4, a5, a6⟩ := ts
    refine ⟨a1, a2, (hI 19 (by omega)).trans a3, (f2 102 1 (by omega) (by omega) (by omega) (by omega) (by omega)).trans a4, (f2 102 2 (by omega) (by omega) (by omega) (by omega) (by omega)).trans a5, fun j hj => ?_⟩
    obtain ⟨b0, m', B', b1, b2, b3, b4, b5, b6⟩ := a6 j hj
    have h8 : (hd + 8 - j) % 8 < 8 := Nat.mod_lt _ (by decide)
    generalize (hd + 8 - j) % 8 = s at *
    exact ⟨b0, m', B', b1, b2, by rw [f3 _ (by omega) (by omega) (by omega) (by omega) (by omega) (by omega)]; exact b3, by rw [g2 _ _ (by omega) (by omega) (by omega)]; exact b4, by rw [hA 18 (by omega)]; exact b5, by rw [hA 18 (by omega)]; exact b6⟩
theorem pot_gr {f j1 j2 g' c s : Nat} (h1 : k1 ≤ potC n g f) (h2 : k2 ≤ potS n g f) (hg : g ≤ g') (e1 : j1 = k1 + (c + 2 * (g' - g))) (e2 : j2 = k2 + (s + 576 * (2 ^ g' - 2 ^ g))) (hc : c ≤ 90) (hs : s ≤ 780) : j1 ≤ potC (n + 6) g' f ∧ j2 ≤ potS (n + 6) g' f := by
  have := Nat.pow_le_pow_right (n := 2) (by decide) hg
  unfold potC potS at *
  omega
theorem s_plays (F : FLx X cL_law RL 7) (hR : RmL X) (hC : RmC X) (S : Scr X b L xs0) (hn : n + 5 < L) (T : TIE g I A J P O IC AC JC pl) (h1 : k1 ≤ potC n g (frT O)) (h2 : k2 ≤ potS n g (frT O)) (kc : KC X b ax ay ao n) : LA X ax ay ao (mS I A J) plM (mC P O IC AC JC) pl U k1 k2 (strt 5) (LB b ax ay ao (nI n)) [] := by
  obtain ⟨p1, p2⟩ := pot_le (n := n) (f := frT O) (by have := S.2.2.2; omega) T.g6
  obtain ⟨m, B, sz, Lv, p, hd, mt, τ, iv, eg, tb, tm, tt, tp, tl, ts, tr⟩ := id T
  have hc := hC.1
  have hs := hC.2.1
  have i100 : 100 ∈ pl := iv.2.1 _ (by decide)
  generalize ea : xs0 (n + 1) = a
  generalize eb : xs0 (n + 2) = c
  obtain ⟨c1, c2, c3, c4, c5, c6⟩ := id tb
  have hg6 := T.g6
  have hgw : ((1 ≤ a ∧ a ≤ 6) ∧ (1 ≤ c ∧ c ≤ 6)) → (1 ≤ min a.toNatClampNeg c.toNatClampNeg ∧ min a.toNatClampNeg c.toNatClampNeg ≤ 6) ∧ (1 ≤ max a.toNatClampNeg c.toNatClampNeg ∧ max a.toNatClampNeg c.toNatClampNeg ≤ 6) := fun hd2 => by
    obtain ⟨x, y, rfl, rfl, hx, hy⟩ := dice_n hd2
    rw [nI_clamp (by omega), nI_clamp (by omega)]
    omega
  have h26 : ∀ g', g' ≤ 6 → 2 ^ g' ≤ 64 := fun g' h => Nat.le_trans (Nat.pow_le_pow_right (by decide) h) (by decide)
  refine w_plays F hR S hn (h_plays (p0 := xs0 (n + 1)) (p1 := xs0 (n + 2)) (c_11_plays (xl X) hC.2.2 iv.1 IC AC JC iv.2.1 (xs0 (n + 1)) (xs0 (n + 2)) c1 c2 iv.2.2.2.1 iv.2.2.2.2.2.2.2.2.2.2.2.2 c6 c4) i100 rfl (fun r σ' pl' h => ⟨_, h.2.2.1⟩) (fun E σ' pl' h => h.2.2.imp And.left And.left)) i100 ?_ ?_ ?_
  · rw [ea, eb]
    have := gN_le (c := ((1 ≤ a ∧ a ≤ 6) ∧ (1 ≤ c ∧ c ≤ 6)) ∧ (undC IC → dueC IC a c)) (v := 2 * ((wkF m (min a.toNatClampNeg c.toNatClampNeg) (max a.toNatClampNeg c.toNatClampNeg) B g).2.2.2.2 - g)) (M := 12) (fun z => by
      have := (wk_I6 (g := g) c1 (hgw z.1).1 (hgw z.1).2 c2 hg6).2
      omega)
    omega
  · rw [ea, eb]
    have := gN_le (c := ((1 ≤ a ∧ a ≤ 6) ∧ (1 ≤ c ∧ c ≤ 6)) ∧ (undC IC → dueC IC a c)) (v := 576 * (2 ^ (wkF m (min a.toNatClampNeg c.toNatClampNeg) (max a.toNatClampNeg c.toNatClampNeg) B g).2.2.2.2 - 2 ^ g)) (M := 36864) (fun z => Nat.le_trans (Nat.mul_le_mul_left _ (Nat.le_trans (Nat.sub_le _ _) (h26 _ (wk_I6 (g := g) c1 (hgw z.1).1 (hgw z.1).2 c2 hg6).2))) (by decide))
    omega
  rw [ea, eb]
  intro k σ' pl' U' hΘ _
  refine ⟨7, _, by decide, c_plays (xl X) I A J m B a c c1 c3 c2 c5, ?_⟩
  intro r σR plR hΦ
  rcases hΘ with ⟨rfl, v, ⟨hdc, hdu, hv, hgs⟩, rfl⟩ | ⟨E, ⟨rfl, rfl, he⟩, rfl, rfl⟩
  · cases hv
    obtain ⟨-, P2, I2, A2, J2, rfl, hz, hcl, htb, hbd⟩ := hgs
    have hmay := (t_due tm a c).mpr hdu
    obtain ⟨I3, A3, hr3, ⟨I4, A4, len, g0, -, e4, epl, fk, fO, bp, e17, cnt, o, TT, WW, e16, htR, htS⟩, e3⟩ := hΦ.2.2 hdc hmay
    subst e3
    have eI : I3 = I4 := congrArg (fun s : HS => s.2.2.1) e4
    have eA : A3 = A4 := congrArg (fun s : HS => s.2.2.2.2.1) e4
    subst eI eA
    subst epl
    obtain ⟨hx, hy⟩ := hgw hdc
    have hq : ¬ qSt I3 := by
      unfold qSt
      rw [fk 20 (by decide) (by decide) (by decide) (by decide) (by decide) (by decide) (by decide)]
      rintro ⟨z0, z6, z3⟩
      rcases hmay with z | z | z
      · exact z0 z
      · exact z6 z
      · exact z3 z.1
    obtain ⟨tr2, ec⟩ := t_tab (g1 := g) c1 hx hy (by omega) c2 bp.2.2.2.2.2.2 e17 e16 hq htR htS htb
    have hgg := wk_g m (min a.toNatClampNeg c.toNatClampNeg) (max a.toNatClampNeg c.toNatClampNeg) B g
    obtain ⟨z1, z2, z3, z4, z5, z6⟩ := hz
    have fG : frG P IC AC JC pl P2 I2 A2 J2 pl' := ⟨z1, fun q k _ _ _ h _ => z2 q k (fun y => h y.1), fun q _ _ _ _ h h' => z3 q h h', z4, z5, z6⟩
    have hI3 : ∀ k, k = 2 ∨ (18 < k ∧ k < 34) ∨ 48 < k → I3 0 k = I 0 k := fun k hk => (fk k (by omega) (by omega) (by omega) (by omega) (by omega) (by omega) (by omega)).trans (up2_k (by omega))
    have hA3 : ∀ q, q = 1 ∨ q = 18 ∨ q = 30 ∨ 48 < q → A3 q = A q := fun q hq => fO q (by omega) (by omega) (by omega) (by omega) (by omega) (by omega) (by omega) (by omega)
    have tt2 : tTp sz I3 A3 I2 A2 := by
      obtain ⟨f1, f2, f3, f4, f5⟩ := tt
      refine ⟨f1, (fk 35 (by omega) (by omega) (by omega) (by omega) (by omega) (by omega) (by omega)).trans f2, (z2 120 1 (by omega)).trans f3, ?_, ?_⟩
      · rw [fO 34 (by omega) (by omega) (by omega) (by omega) (by omega) (by omega) (by omega) (by omega), z3 121 (by omega) (by omega)]; exact f4
      · rw [fk 42 (by omega) (by omega) (by omega) (by omega) (by omega) (by omega) (by omega), z2 104 8 (by omega)]; exact f5
    have T2 := t_play iv tb tm tp tl ts fG hcl hbd tt2 hI3 hA3 tr2
    refine ⟨_, I3, A3, J, by rw [hr3, e16], rfl, rfl, ?_, fun _ => ?_, kc _ _ _ _ _ _ _ _ (INV.mk T2 (pot_gr (c := 8) (s := 60) h1 h2 hgg (by rw [gN_t ⟨hdc, hdu⟩]) (by rw [gN_t ⟨hdc, hdu⟩]) (by decide) (by decide)))⟩
    · exact (fk 0 (by omega) (by omega) (by omega) (by omega) (by omega) (by omega) (by omega)).trans rfl
    · rw [ec]; rfl
  · rcases he with ⟨rfl, he⟩ | ⟨rfl, hdc, he⟩
    · obtain ⟨rfl, rfl, rfl⟩ := hΦ.1 he
      refine ⟨_, _, _, _, rfl, rfl, rfl, rfl, fun z => absurd z (by decide), kc _ _ _ _ _ _ _ _ (INV.mk (T.thr _) ?_)⟩
      rw [gN_f (fun z => he z.1), gN_f (fun z => he z.1)]
      exact pot_st h1 h2 (by decide) (by decide)
    · obtain ⟨rfl, rfl, rfl⟩ := hΦ.2.1 hdc (fun z => he ((t_due tm a c).mp z))
      refine ⟨_, _, _, _, rfl, rfl, rfl, rfl, fun z => absurd z (by decide), kc _ _ _ _ _ _ _ _ (INV.mk (T.thr _) ?_)⟩
      rw [gN_f (fun z => he z.2), gN_f (fun z => he z.2)]
      exact pot_st h1 h2 (by decide) (by decide)
end