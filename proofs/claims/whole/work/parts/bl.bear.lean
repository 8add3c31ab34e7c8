/-! bearing off -/
section
variable {X : Ctx} {b ax ay ao L n g k1 k2 : Nat} {xs0 : Nat → Int32} {I A : Nat → Nat → Int32} {J : Nat → Nat → Int64} {P O : Nat → Nat → Option Nat} {IC AC : Nat → Nat → Int32} {JC : Nat → Nat → Int64} {pl : List Nat} {U : Nat → Int64} {I' A' I3 A3 : Nat → Nat → Int32} {P1 O1 P3 O3 : Nat → Nat → Option Nat} {J' J1 J3 : Nat → Nat → Int64} {I1 : Nat → Nat → Int32} {pl1 pl3 : List Nat}
def frB (P O : Nat → Nat → Option Nat) (IC AC : Nat → Nat → Int32) (JC : Nat → Nat → Int64) (pl : List Nat) (P3 O3 : Nat → Nat → Option Nat) (I3 A3 : Nat → Nat → Int32) (J3 : Nat → Nat → Int64) (pl3 : List Nat) : Prop := (∀ q k, ¬ (q = 116 ∧ k = 9) → P3 q k = P q k) ∧ (∀ q k, q ≠ 116 → ¬ (q = 122 ∧ k = 1) → I3 q k = IC q k) ∧ (∀ q, q ≠ 123 → q ≠ 127 → A3 q = AC q) ∧ (∀ q, q < 1000 → q ≠ 124 → q ≠ 141 → q ≠ 143 → q ≠ 147 → q ≠ 149 → J3 q = JC q) ∧ clC P3 O3 pl3 ∧ shO O3 pl3 ∧ (∀ q, q ∈ pl → q ∈ pl3) ∧ (∀ q, q ∈ pl3 → q ∈ pl ∨ 1000 ≤ q) ∧ (∀ q, q ≠ 117 → O3 q = O q) ∧ sdI O3 J3 ∧ digW (J3 141) 6 ∧ digW (J3 143) 6
theorem frB.inv (f : frB P O IC AC JC pl P3 O3 I3 A3 J3 pl3) (iv : invC P O IC AC JC pl g) : invC P3 O3 I3 A3 J3 pl3 g := by
  obtain ⟨f1, f2, f3, f4, f5, f6, f7, f8, f9, f10, f11, f12⟩ := f
  obtain ⟨a1, a2, a3, a4, a5, a6, a7, a8, a9, b1, b2, b3, b4⟩ := iv
  refine ⟨fun q k h => ?_, fun q hq => f7 q (a2 q hq), fun q h => ?_, f5, fun k hk => ?_, f6, fun k => ?_, ?_, ?_, f10, f11, f12, b4.1.up f7 (fun q hq => (f8 q hq).imp id (fun z => Or.inr (by omega))), by rw [f1 _ _ (by omega)]; exact b4.2.1, by rw [f1 _ _ (by omega)]; exact b4.2.2⟩
  · rw [f1 q k (fun z => ?_)]
    · exact a1 q k h
    · obtain ⟨rfl, rfl⟩ := z; exact h rfl
  · have : P3 q = P q := by
      funext k
      exact f1 q k (fun z => by obtain ⟨rfl, -⟩ := z; exact absurd h (by decide))
    rw [this]
    exact a3 q h
  · rw [f9 103 (by decide)]
    rcases a5 k hk with ⟨c1, c2, c3⟩ | ⟨c1, c2, c3⟩
    · exact Or.inl ⟨c1, f7 _ c2, f7 _ c3⟩
    · exact Or.inr ⟨c1, fun z => (f8 _ z).elim c2 (fun y => by omega), fun z => (f8 _ z).elim c3 (fun y => by omega)⟩
  · funext j
    rw [f2 _ _ (by omega) (by omega), a7 k]
  · rw [f3 118 (by decide) (by decide)]; exact a8
  · unfold pwT at *
    rw [f4 119 (by decide) (by decide) (by decide) (by decide) (by decide) (by decide), f4 145 (by decide) (by decide) (by decide) (by decide) (by decide) (by decide)]
    exact a9
theorem t_bear {m mt sz Lv p hd : Nat} {B : Nat → Nat} {τ : TB} (iv : invC P O IC AC JC pl g) (eg : τ.2.2.2.2 = g) (tb : tBd m B I A IC AC) (tm : tMt I A IC AC) (tt : tTp sz I A IC AC) (tl : tLv Lv I A J IC) (ts : tPs p hd I A O IC AC) (tr : tRs m mt τ I A P IC AC JC pl) (f : frB P O IC AC JC pl P3 O3 I3 A3 J3 pl3) (hI : ∀ k, 0 < k → k < 55 → I' 0 k = I 0 k) (hA : ∀ q, q < 49 → A' q = A q) (hbo : boS I' A' Lv) (hjo : joS J') (tp : tPg I' A' I3 A3) : TIE g I' A' J' P3 O3 I3 A3 J3 pl3 := by
  have iv3 := f.inv iv
  obtain ⟨f1, f2, f3, f4, f5, f6, f7, f8, f9, f10, f11, f12⟩ := f
  have g6 : g ≤ 6 := by rw [← eg]; exact tr.2.2.1.1.1
  have fI : ∀ q k, q ≠ 116 → q ≠ 122 → I3 q k = IC q k := fun q k h1 h2 => f2 q k h1 (fun z => h2 z.1)
  refine ⟨m, B, sz, Lv, p, hd, mt, τ, iv3, eg, tb.cg (hI 2 (by omega) (by omega)) (fI 130 1 (by decide) (by decide)) (hA 1 (by decide)) (f3 131 (by decide) (by decide)), tm.cg (fun k h1 h2 => hI k (by omega) (by omega)) (fun k => fI 114 k (by decide) (by decide)) (hA 30 (by decide)) (f3 115 (by decide) (by decide)), ?_, tp, ⟨hbo, hjo, (fI 100 10 (by decide) (by decide)).trans tl.2.2⟩, ?_, ?_⟩
  · obtain ⟨c1, c2, c3, c4, c5⟩ := tt
    exact ⟨c1, (hI 35 (by omega) (by omega)).trans c2, (fI 120 1 (by decide) (by decide)).trans c3, by rw [hA 34 (by decide), f3 121 (by decide) (by decide)]; exact c4, by rw [hI 42 (by omega) (by omega), fI 104 8 (by decide) (by decide)]; exact c5⟩
  · obtain ⟨a1, a2, a3, a4, a5, a6⟩ := ts
    refine ⟨a1, a2, (hI 19 (by omega) (by omega)).trans a3, (fI 102 1 (by decide) (by decide)).trans a4, (fI 102 2 (by decide) (by decide)).trans a5, fun j hj => ?_⟩
    obtain ⟨b0, m', B', b1, b2, b3, b4, b5, b6⟩ := a6 j hj
    exact ⟨by rw [f9 103 (by decide)]; exact b0, m', B', b1, b2, by rw [f3 _ (by omega) (by omega)]; exact b3, by rw [fI _ _ (by omega) (by omega)]; exact b4, by rw [hA 18 (by decide)]; exact b5, by rw [hA 18 (by decide)]; exact b6⟩
  · obtain ⟨a1, a2, a3, a4, a5, a6⟩ := tr
    refine ⟨a1, ⟨a2.1, fun z => a2.2 (qSt.of (hI 20 (by omega) (by omega)).symm z)⟩, ?_, (hI 16 (by omega) (by omega)).trans a4, by rw [hI 17 (by omega) (by omega)]; exact a5, by rw [hA 13 (by decide), hA 14 (by decide), hA 15 (by decide), hI 17 (by omega) (by omega)]; exact a6⟩
    obtain ⟨y1, y2, y3, y4, y5, y6, y7, y8, o, y9⟩ := a3
    rw [eg] at y9
    refine ⟨y1.up f7 (fun q hq => (f8 q hq).imp id (fun z => Or.inr (by omega))), by rw [f1 _ _ (by omega)]; exact y2, by rw [f1 _ _ (by omega)]; exact y3, by rw [fI _ _ (by decide) (by decide)]; exact y4, by rw [fI _ _ (by decide) (by decide)]; exact y5, by rw [fI _ _ (by decide) (by decide)]; exact y6, y7, y8, o, ?_⟩
    rw [eg, f3 _ (by omega) (by omega), f4 _ (by omega) (by omega) (by omega) (by omega) (by omega) (by omega)]
    exact y9
theorem frT_le (O : Nat → Nat → Option Nat) : frT O ≤ 848 := by
  have := su_bd (f := freeK O) (o := 0) (c := 1) 848 (fun k _ => by unfold freeK; split <;> omega)
  unfold frT
  omega
theorem ndF_le (O : Nat → Nat → Option Nat) (s : Nat) : ndF O s ≤ 848 := by
  have := su_bd (f := ndK O s) (o := 0) (c := 1) 848 (fun k _ => by unfold ndK; split <;> omega)
  unfold ndF
  omega
theorem rcF_le (O : Nat → Nat → Option Nat) (x y : Nat) : rcF O x y ≤ 848 := by
  have := su_bd (f := rcK O x y) (o := 0) (c := 1) 848 (fun k _ => by unfold rcK; split <;> omega)
  unfold rcF
  omega
theorem pot_sh {f f' d j1 j2 c s : Nat} (h1 : k1 ≤ potC n g f) (h2 : k2 ≤ potS n g f) (hf : f ≤ 848) (e : f' + d = f) (e1 : j1 = k1 + (c + 2 * d)) (e2 : j2 = k2 + (s + 1153 * d)) (hc : c ≤ 90) (hs : s ≤ 780) : j1 ≤ potC (n + 6) g f' ∧ j2 ≤ potS (n + 6) g f' := by
  unfold potC potS at *
  omega
/-- behind working out -/
theorem wo_B {s : Nat} (hs : stnd s) (iv : invC P O IC AC JC pl g) (h : woQ P O IC AC JC pl s none (mC P1 O1 I1 AC J1) pl1) : frB P O IC AC JC pl P1 O1 I1 AC J1 pl1 ∧ frT O1 + ndF O s = frT O ∧ gr P O IC JC pl P1 O1 I1 J1 pl1 := by
  obtain ⟨-, P', O', I', J', e, hg, hsd, hdn, hfr⟩ := h
  have eP : P1 = P' := congrArg (fun s : HS => s.2.2.2.1) e
  have eO : O1 = O' := congrArg (fun s : HS => s.2.2.2.2.2.2) e
  have eI : I1 = I' := congrArg (fun s : HS => s.2.2.1) e
  have eJ : J1 = J' := congrArg (fun s : HS => s.2.2.2.2.2.1) e
  subst eP eO eI eJ
  obtain ⟨a1, a2, a3, a4, a5, a6, a7, a8, a9, b1, b2, b3, b4⟩ := iv
  rw [wk_nd b1 hs] at hfr
  refine ⟨?_, hfr, hg⟩
  obtain ⟨g1, g2, g3, g4, g5, g6, g7, g8, -⟩ := hg
  exact ⟨g1, fun q k h _ => g2 q k (fun z => h z.1), fun q _ _ => rfl, fun q h1 h2 h3 h4 h5 h6 => g8 q h1 h5 h2, g3, g4, g5, g6, g7, hsd, by rw [g8 141 (by decide) (by decide) (by decide)]; exact b2, by rw [g8 143 (by decide) (by decide) (by decide)]; exact b3⟩
theorem gr_B (iv : invC P O IC AC JC pl g) (hg : gr P O IC JC pl P1 O1 I1 J1 pl1) (hsd : sdI O1 J1) : frB P O IC AC JC pl P1 O1 I1 AC J1 pl1 := by
  obtain ⟨a1, a2, a3, a4, a5, a6, a7, a8, a9, b1, b2, b3, b4⟩ := iv
  obtain ⟨g1, g2, g3, g4, g5, g6, g7, g8, -⟩ := hg
  exact ⟨g1, fun q k h _ => g2 q k (fun z => h z.1), fun q _ _ => rfl, fun q h1 h2 h3 h4 h5 h6 => g8 q h1 h5 h2, g3, g4, g5, g6, g7, hsd, by rw [g8 141 (by decide) (by decide) (by decide)]; exact b2, by rw [g8 143 (by decide) (by decide) (by decide)]; exact b3⟩
/-- behind printing -/
theorem pg_B {u q0 : Nat} {r : Option Value} {σ' : HS} {pl' : List Nat} (f : frB P O IC AC JC pl P1 O1 I1 AC J1 pl1) (h : pgC P1 O1 I1 AC J1 pl1 u q0 r σ' pl') : ∃ I3 A3 J3 len txt, σ' = mC P1 O1 I3 A3 J3 ∧ pl' = pl1 ∧ r = some (.int (nI len)) ∧ len ≤ 400 ∧ prT u q0 len txt ∧ I3 122 1 = nI len ∧ (∀ i, i < len → A3 123 i = nI (txt i)) ∧ frB P O IC AC JC pl P1 O1 I3 A3 J3 pl1 := by
  obtain ⟨J2, I3, A3, J3, len0, hJ2, rfl, rfl, rfl, hpr, h122⟩ := h
  obtain ⟨I4, A4, J4, len, txt, -, e, -, p1, p2, p3, p4, p5, p6, p7, p8, p9⟩ := hpr
  have eI : I3 = I4 := congrArg (fun s : HS => s.2.2.1) e
  have eA : A3 = A4 := congrArg (fun s : HS => s.2.2.2.2.1) e
  have eJ : J3 = J4 := congrArg (fun s : HS => s.2.2.2.2.2.1) e
  subst eI eA eJ
  obtain ⟨f1, f2, f3, f4, f5, f6, f7, f8, f9, f10, f11, f12⟩ := f
  have hJ : ∀ q, q ≠ 141 → q ≠ 143 → q ≠ 147 → q ≠ 149 → J3 q = J1 q := fun q h1 h2 h3 h4 => (p7 q h1 h2).trans (hJ2 q h2 h3 h4)
  exact ⟨I3, A3, J3, len, txt, rfl, rfl, by rw [← h122, p2], p3, p4, p2, p5, f1, fun q k h1 h2 => (p1 q k h2).trans (f2 q k h1 h2), fun q h1 h2 => p6 q h1 h2, fun q h1 h2 h3 h4 h5 h6 => (hJ q h3 h4 h5 h6).trans (f4 q h1 h2 h3 h4 h5 h6), f5, f6, f7, f8, f9, f10.j (fun q hq => hJ q (by omega) (by omega) (by omega) (by omega)), p8, p9⟩
theorem pip_n {Lv s : Nat} (hs : stnd s) (hL : Lv ≤ 90) (e : IC 100 10 = nI Lv) : nI (pipS s) ≤ IC 100 10 ↔ pipS s ≤ Lv := by
  rw [e]
  have := pip_90 hs
  exact nI_leI (by omega) (by omega)
end