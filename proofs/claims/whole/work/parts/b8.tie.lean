/-! THE TIE between the reference's state and the class's -/
def tBd (m : Nat) (B : Nat → Nat) (I A IC AC : Nat → Nat → Int32) : Prop := m ≤ 1 ∧ okB B ∧ I 0 2 = nI m ∧ IC 130 1 = nI m ∧ bdR (A 1) 0 B ∧ bdR (AC 131) 0 B
def tMt (I A IC AC : Nat → Nat → Int32) : Prop := (0 ≤ I 0 20 ∧ I 0 20 ≤ 6) ∧ IC 114 12 = I 0 20 ∧ IC 114 1 = I 0 21 ∧ IC 114 13 = I 0 22 ∧ IC 114 2 = I 0 23 ∧ IC 114 6 = I 0 24 ∧ IC 114 7 = I 0 25 ∧ IC 114 8 = I 0 26 ∧ IC 114 9 = I 0 27 ∧ (I 0 20 = 3 → IC 114 10 = I 0 28 ∧ IC 114 11 = I 0 29 ∧ I 0 29 ≤ I 0 28) ∧ (¬ I 0 20 = 3 → IC 114 10 = 0 ∧ IC 114 11 = 0) ∧ IC 114 3 = I 0 31 ∧ IC 114 4 = I 0 32 ∧ (I 0 32 = 0 ∨ I 0 32 = 1) ∧ IC 114 5 = I 0 33 ∧ AC 115 0 = A 30 0 ∧ AC 115 1 = A 30 1
def tTp (sz : Nat) (I A IC AC : Nat → Nat → Int32) : Prop := sz ≤ 400 ∧ I 0 35 = nI sz ∧ IC 120 1 = nI sz ∧ A 34 = AC 121 ∧ I 0 42 = IC 104 8
def tPg (I A IC AC : Nat → Nat → Int32) : Prop := ∃ len, len ≤ 400 ∧ I 0 61 = nI len ∧ IC 122 1 = nI len ∧ ∀ i, i < len → A 59 i = AC 123 i
def tLv (Lv : Nat) (I A : Nat → Nat → Int32) (J : Nat → Nat → Int64) (IC : Nat → Nat → Int32) : Prop := boS I A Lv ∧ joS J ∧ IC 100 10 = nI Lv
/-- a kept position: the class's at place s of its ring, the reference's in row r -/
def tOne (s r : Nat) (A : Nat → Nat → Int32) (O : Nat → Nat → Option Nat) (IC AC : Nat → Nat → Int32) : Prop := O 103 s = some (200 + 2 * s) ∧ ∃ m' B', m' ≤ 1 ∧ okB B' ∧ bdR (AC (201 + 2 * s)) 0 B' ∧ IC (200 + 2 * s) 1 = nI m' ∧ (∀ k, k < 52 → A 18 (53 * r + k) = nI (B' k)) ∧ A 18 (53 * r + 52) = nI m'
def tPs (p hd : Nat) (I A : Nat → Nat → Int32) (O : Nat → Nat → Option Nat) (IC AC : Nat → Nat → Int32) : Prop := p ≤ 8 ∧ hd < 8 ∧ I 0 19 = nI p ∧ IC 102 1 = nI hd ∧ IC 102 2 = nI p ∧ ∀ j, j < p → tOne ((hd + 8 - j) % 8) (p - 1 - j) A O IC AC
/-- a match is under way and no dice are due: there are no results then -/
def qSt (I : Nat → Nat → Int32) : Prop := ¬ I 0 20 = 0 ∧ ¬ I 0 20 = 6 ∧ ¬ I 0 20 = 3
theorem qSt.of {I : Nat → Nat → Int32} {c : Int32} (h : I 0 20 = c) (hc : ¬ c = 0 ∧ ¬ c = 6 ∧ ¬ c = 3) : qSt I := by
  unfold qSt
  rw [h]
  exact hc
def tRs (m mt : Nat) (τ : TB) (I A : Nat → Nat → Int32) (P : Nat → Nat → Option Nat) (IC AC : Nat → Nat → Int32) (JC : Nat → Nat → Int64) (pl : List Nat) : Prop := mt ≤ 1 ∧ ((τ.2.1 ≠ 0 → mt = m) ∧ (qSt I → τ.2.1 = 0)) ∧ tbS P IC AC JC pl mt τ ∧ I 0 16 = nI τ.2.1 ∧ I 0 17 ≤ 4 ∧ ∀ i, i < τ.2.1 → ∃ r, r < 3200 ∧ A 15 i = nI r ∧ okB (τ.2.2.1 i) ∧ (∀ k, k < 52 → A 13 (52 * r + k) = nI (τ.2.2.1 i k)) ∧ ∀ k : Int32, mvO (τ.2.2.2.1 i) k = if 0 ≤ k ∧ k < I 0 17 then A 14 (4 * nI r + k).toNatClampNeg else -1
def TIE (g : Nat) (I A : Nat → Nat → Int32) (J : Nat → Nat → Int64) (P O : Nat → Nat → Option Nat) (IC AC : Nat → Nat → Int32) (JC : Nat → Nat → Int64) (pl : List Nat) : Prop :=
  ∃ m B sz Lv p hd mt τ, invC P O IC AC JC pl g ∧ τ.2.2.2.2 = g ∧ tBd m B I A IC AC ∧ tMt I A IC AC ∧ tTp sz I A IC AC ∧ tPg I A IC AC ∧ tLv Lv I A J IC ∧ tPs p hd I A O IC AC ∧ tRs m mt τ I A P IC AC JC pl
theorem TIE.thr {g : Nat} {I A : Nat → Nat → Int32} {J : Nat → Nat → Int64} {P O : Nat → Nat → Option Nat} {IC AC : Nat → Nat → Int32} {JC : Nat → Nat → Int64} {pl : List Nat} (h : TIE g I A J P O IC AC JC pl) (c : Int32) : TIE g (up2 I 0 0 c) A J P O IC AC JC pl := by
  obtain ⟨m, B, sz, Lv, p, hd, mt, τ, h1, h2, h3, h4, h5, h6, h7, h8, h9⟩ := h
  exact ⟨m, B, sz, Lv, p, hd, mt, τ, h1, h2, h3, h4, h5, h6, h7, h8, h9⟩
def potC (n g f : Nat) : Nat := 100 + 15 * n + 2 * g + 2 * (848 - f)
def potS (n g f : Nat) : Nat := 2040000 + 130 * n + 576 * 2 ^ g + 1153 * (848 - f)
def INV : INVT := fun n I A J σC plC _ k1 k2 => ∃ P O IC AC JC g, σC = mC P O IC AC JC ∧ TIE g I A J P O IC AC JC plC ∧ k1 ≤ potC n g (frT O) ∧ k2 ≤ potS n g (frT O)
def RmC (X : Ctx) : Prop := 60000 ≤ (xR X).cells ∧ 5000000 ≤ (xR X).slots ∧ (xl X).stackTraces = false
theorem TIE.g6 {g : Nat} {I A : Nat → Nat → Int32} {J : Nat → Nat → Int64} {P O : Nat → Nat → Option Nat} {IC AC : Nat → Nat → Int32} {JC : Nat → Nat → Int64} {pl : List Nat} (h : TIE g I A J P O IC AC JC pl) : g ≤ 6 := by
  obtain ⟨m, B, sz, Lv, p, hd, mt, τ, h1, h2, h3, h4, h5, h6, h7, h8, h9⟩ := h
  rw [← h2]
  exact h9.2.2.1.1.1
theorem pot_le {n g f : Nat} (hn : n ≤ 3072) (hg : g ≤ 6) : potC n g f ≤ 47888 ∧ potS n g f ≤ 3454000 := by
  have h : 2 ^ g ≤ 2 ^ 6 := Nat.pow_le_pow_right (by decide) hg
  unfold potC potS
  omega
theorem INV_skip : ∀ n I A J σC plC U k1 k2, INV n I A J σC plC U k1 k2 → INV (n + 6) I A J σC plC U k1 k2 := by
  intro n I A J σC plC U k1 k2 ⟨P, O, IC, AC, JC, g, e, T, h1, h2⟩
  exact ⟨P, O, IC, AC, JC, g, e, T, by unfold potC at h1 ⊢; omega, by unfold potS at h2 ⊢; omega⟩
/-- the room behind a call that grows nothing -/
theorem pot_st {n g f k1 k2 mc ms : Nat} (h1 : k1 ≤ potC n g f) (h2 : k2 ≤ potS n g f) (hc : mc ≤ 90) (hs : ms ≤ 780) : k1 + mc ≤ potC (n + 6) g f ∧ k2 + ms ≤ potS (n + 6) g f := by
  unfold potC potS at *
  omega
abbrev KC (X : Ctx) (b ax ay ao n : Nat) : Prop := ∀ I' A' J' σ' pl' U' j1 j2, INV (n + 6) I' A' J' σ' pl' U' j1 j2 → LA X ax ay ao (mS I' A' J') plM σ' pl' U' j1 j2 1420 (LB b ax ay ao (nI n)) []
section
variable {X : Ctx} {b ax ay ao L n g k1 k2 : Nat} {xs0 : Nat → Int32} {I A : Nat → Nat → Int32} {J : Nat → Nat → Int64} {P O : Nat → Nat → Option Nat} {IC AC : Nat → Nat → Int32} {JC : Nat → Nat → Int64} {pl : List Nat} {U : Nat → Int64}
theorem INV.mk {P O : Nat → Nat → Option Nat} {IC AC : Nat → Nat → Int32} {JC : Nat → Nat → Int64} (T : TIE g I A J P O IC AC JC pl) (h : k1 ≤ potC n g (frT O) ∧ k2 ≤ potS n g (frT O)) : INV n I A J (mC P O IC AC JC) pl U k1 k2 := ⟨P, O, IC, AC, JC, g, rfl, T, h.1, h.2⟩
theorem i_res {v w : Int32} (h : v = w) : (nI 0 = 0 → vp_updL U 0 v.toInt64 0 = w.toInt64) := fun _ => by rw [h]; rfl
theorem s_fault (F : FLx X cL_law RL 7) (hR : RmL X) (hC : RmC X) (S : Scr X b L xs0) (hn : n + 5 < L) (T : TIE g I A J P O IC AC JC pl) (h1 : k1 ≤ potC n g (frT O)) (h2 : k2 ≤ potS n g (frT O)) (kc : KC X b ax ay ao n) : LA X ax ay ao (mS I A J) plM (mC P O IC AC JC) pl U k1 k2 (strt 2) (LB b ax ay ao (nI n)) [] := by
  obtain ⟨p1, p2⟩ := pot_le (n := n) (f := frT O) (by have := S.2.2.2; omega) T.g6
  obtain ⟨m, B, sz, Lv, p, hd, mt, τ, iv, eg, tb, tm, tt, tp, tl, ts, tr⟩ := id T
  refine w_fault F hR S hn (c_11_fault (xl X) hC.2.2 iv.1 IC AC JC iv.2.1) (iv.2.1 _ (by decide)) rfl (by have := hC.1; omega) (by have := hC.2.1; omega) (fun r σ' pl' h => ⟨_, h.1⟩) ?_
  intro v σ' pl' h _
  obtain ⟨h1', rfl, rfl⟩ := h
  cases h1'
  refine ⟨2, _, by decide, c_fault (xl X) I A J, ?_⟩
  rintro r σR plR ⟨rfl, rfl, rfl⟩
  refine ⟨_, _, _, ?_, rfl, rfl, kc _ _ _ _ _ _ _ _ (INV.mk (T.thr 0) (pot_st h1 h2 (by decide) (by decide)))⟩
  rw [tt.2.2.2.2]
end
