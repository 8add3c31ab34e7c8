/-- a step by its place c in the order of trying: point 25 - c / 2, die c % 2 -/
def dieC (x y c : Nat) : Nat := if c % 2 = 0 then x else y
def okC (m x y g L : Nat) (B : Nat → Nat) (c : Nat) : Prop := lfP x y L (c % 2) ∧ (g = 0 ∨ dieC x y c = g) ∧ cmP B m (25 - c / 2) (dieC x y c)
noncomputable def nxB (m x y : Nat) (B : Nat → Nat) (c : Nat) : Nat → Nat := mvB B m (25 - c / 2) (dieC x y c)
def cdC (x y c : Nat) : Nat := 32 * (25 - c / 2) + (25 - c / 2 - dieC x y c)
def nxW (x y n w c : Nat) : Nat := w + cdC x y c * 1024 ^ (3 - n)
/-- k steps from a node to a node -/
def Rch (m x y g : Nat) : Nat → Nat → Nat → (Nat → Nat) → Nat → Nat → (Nat → Nat) → Nat → Prop
  | 0, _, L, B, w, L', B', w' => L' = L ∧ B' = B ∧ w' = w
  | k + 1, n, L, B, w, L', B', w' => ∃ c, c < 50 ∧ okC m x y g L B c ∧ Rch m x y g k (n + 1) (woF x y L (c % 2)) (nxB m x y B c) (nxW x y n w c) L' B' w'
theorem Rch_snoc {m x y g : Nat} : ∀ k n L (B : Nat → Nat) w L' (B' : Nat → Nat) w' c, Rch m x y g k n L B w L' B' w' → c < 50 → okC m x y g L' B' c → Rch m x y g (k + 1) n L B w (woF x y L' (c % 2)) (nxB m x y B' c) (nxW x y (n + k) w' c)
  | 0, n, L, B, w, L', B', w', c, h, hc, ho => by
    obtain ⟨rfl, rfl, rfl⟩ := h
    exact ⟨c, hc, ho, rfl, rfl, rfl⟩
  | k + 1, n, L, B, w, L', B', w', c, h, hc, ho => by
    obtain ⟨c1, h1, h2, h3⟩ := h
    have := Rch_snoc k (n + 1) _ _ _ _ _ _ c h3 hc ho
    rw [show n + 1 + k = n + (k + 1) by omega] at this
    exact ⟨c1, h1, h2, this⟩
theorem cd_lt {x y c : Nat} (hc : c < 50) : cdC x y c < 1024 := by unfold cdC; omega
theorem cd_pos {x y c : Nat} (hc : c < 50) : 32 ≤ cdC x y c := by unfold cdC; omega
theorem w_ext {n w d : Nat} (hn : n < 4) (h : wOK n w) (hd : d < 1024) : wOK (n + 1) (w + d * 1024 ^ (3 - n)) ∧ (∀ j, j < n → wdg (w + d * 1024 ^ (3 - n)) j = wdg w j) ∧ wdg (w + d * 1024 ^ (3 - n)) n = d := by
  unfold wOK at h ⊢; unfold wdg
  rcases (show n = 0 ∨ n = 1 ∨ n = 2 ∨ n = 3 by omega) with rfl | rfl | rfl | rfl
  · simp at h ⊢; refine ⟨⟨?_, ?_⟩, ?_⟩ <;> omega
  · simp at h ⊢; refine ⟨⟨?_, ?_⟩, ?_, ?_⟩ <;> omega
  · simp at h ⊢; refine ⟨⟨?_, ?_⟩, ?_, ?_⟩
    · omega
    · omega
    · intro j hj; rcases (show j = 0 ∨ j = 1 by omega) with rfl | rfl <;> simp <;> omega
    · omega
  · simp at h ⊢; refine ⟨⟨?_, ?_⟩, ?_, ?_⟩
    · omega
    · omega
    · intro j hj; rcases (show j = 0 ∨ j = 1 ∨ j = 2 by omega) with rfl | rfl | rfl <;> simp <;> omega
    · omega
theorem die_b {x y c : Nat} (hx : 1 ≤ x ∧ x ≤ 6) (hy : 1 ≤ y ∧ y ≤ 6) : 1 ≤ dieC x y c ∧ dieC x y c ≤ 6 := by unfold dieC; split <;> assumption
theorem nxB_ok {m x y g L : Nat} {B : Nat → Nat} {c : Nat} (hm : m ≤ 1) (hx : 1 ≤ x ∧ x ≤ 6) (hy : 1 ≤ y ∧ y ≤ 6) (hc : c < 50) (h : okB B) (ho : okC m x y g L B c) : okB (nxB m x y B c) := mvB_ok h hm (by omega) (by omega) (die_b hx hy).1 ho.2.2
theorem wo_lt {x y L s : Nat} (hs : s ≤ 1) (h : lfP x y L s) : woF x y L s < L := by
  unfold lfP at h; unfold woF
  by_cases c : x = y
  · rw [if_pos c] at h ⊢; omega
  · rw [if_neg c] at h ⊢
    rcases (show s = 0 ∨ s = 1 by omega) with rfl | rfl <;> simp at h ⊢ <;> omega
theorem Rch_ok {m x y g : Nat} (hm : m ≤ 1) (hx : 1 ≤ x ∧ x ≤ 6) (hy : 1 ≤ y ∧ y ≤ 6) : ∀ k n L (B : Nat → Nat) w L' (B' : Nat → Nat) w', Rch m x y g k n L B w L' B' w' → n + L ≤ 4 → okB B → wOK n w → n + k + L' ≤ 4 ∧ okB B' ∧ wOK (n + k) w'
  | 0, n, L, B, w, L', B', w', h, hl, hB, hw => by
    obtain ⟨rfl, rfl, rfl⟩ := h
    exact ⟨by omega, hB, hw⟩
  | k + 1, n, L, B, w, L', B', w', h, hl, hB, hw => by
    obtain ⟨c, h1, h2, h3⟩ := h
    have hlt := wo_lt (by omega) h2.1
    have := Rch_ok hm hx hy k (n + 1) _ _ _ _ _ _ h3 (by omega) (nxB_ok hm hx hy h1 hB h2) (w_ext (by omega) hw (cd_lt h1)).1
    rw [show n + 1 + k = n + (k + 1) by omega] at this
    exact this
/-- what lies behind a node, by the steps from the c-th on, at most lim deep -/
def SubC (m x y g lim n L : Nat) (B : Nat → Nat) (w c : Nat) : Nat → (Nat → Nat) → Nat → Prop := fun d B' w' => n + 1 ≤ d ∧ d ≤ lim ∧ ∃ c', c ≤ c' ∧ c' < 50 ∧ okC m x y g L B c' ∧ ∃ L', Rch m x y g (d - (n + 1)) (n + 1) (woF x y L (c' % 2)) (nxB m x y B c') (nxW x y n w c') L' B' w'
abbrev NS : Type := Nat → (Nat → Nat) → Nat → Prop
def orN (V V' : NS) : NS := fun d B w => V d B w ∨ V' d B w
def oneN (n : Nat) (B : Nat → Nat) (w : Nat) : NS := fun d B' w' => d = n ∧ B' = B ∧ w' = w
theorem sub_end {m x y g lim n L : Nat} {B : Nat → Nat} {w : Nat} (V : NS) : orN V (SubC m x y g lim n L B w 50) = V := by
  funext d B' w'; apply propext; unfold orN SubC
  exact ⟨fun h => h.elim id (fun ⟨_, _, c, h1, h2, _⟩ => by omega), Or.inl⟩
theorem sub_skip {m x y g lim n L : Nat} {B : Nat → Nat} {w c : Nat} (h : ¬ okC m x y g L B c) : SubC m x y g lim n L B w (c + 1) = SubC m x y g lim n L B w c := by
  funext d B' w'; apply propext; unfold SubC
  constructor
  · rintro ⟨h1, h2, c', h3, h4⟩; exact ⟨h1, h2, c', by omega, h4⟩
  · rintro ⟨h1, h2, c', h3, h4, h5, h6⟩
    refine ⟨h1, h2, c', ?_, h4, h5, h6⟩
    rcases Nat.lt_or_ge c c' with z | z
    · exact z
    · obtain rfl : c' = c := by omega
      exact absurd h5 h
theorem sub_lim {m x y g lim n L : Nat} {B : Nat → Nat} {w c : Nat} (h : lim ≤ n) (V : NS) : orN V (SubC m x y g lim n L B w c) = V := by
  funext d B' w'; apply propext; unfold orN SubC
  exact ⟨fun h => h.elim id (fun ⟨_, _, _⟩ => by omega), Or.inl⟩
theorem sub_step {m x y g lim n L : Nat} {B : Nat → Nat} {w c : Nat} (V : NS) (hc : c < 50) (hn : n < lim) (h : okC m x y g L B c) : orN (orN (orN V (oneN (n + 1) (nxB m x y B c) (nxW x y n w c))) (SubC m x y g lim (n + 1) (woF x y L (c % 2)) (nxB m x y B c) (nxW x y n w c) 0)) (SubC m x y g lim n L B w (c + 1)) = orN V (SubC m x y g lim n L B w c) := by
  funext d B' w'; apply propext; unfold orN SubC oneN
  constructor
  · rintro (((h1 | ⟨rfl, rfl, rfl⟩) | ⟨h1, h2, c', h3, h4, h5, L', h6⟩) | ⟨h1, h2, c', h3, h4, h5, h6⟩)
    · exact Or.inl h1
    · refine Or.inr ⟨Nat.le_refl _, hn, c, Nat.le_refl _, hc, h, woF x y L (c % 2), ?_⟩
      rw [Nat.sub_self]; exact ⟨rfl, rfl, rfl⟩
    · refine Or.inr ⟨by omega, h2, c, Nat.le_refl _, hc, h, L', ?_⟩
      rw [show d - (n + 1) = (d - (n + 1 + 1)) + 1 by omega]
      exact ⟨c', h4, h5, h6⟩
    · exact Or.inr ⟨h1, h2, c', by omega, h4, h5, h6⟩
  · rintro (h1 | ⟨h1, h2, c', h3, h4, h5, L', h6⟩)
    · exact Or.inl (Or.inl (Or.inl h1))
    · rcases Nat.lt_or_ge c c' with z | z
      · exact Or.inr ⟨h1, h2, c', z, h4, h5, L', h6⟩
      · obtain rfl : c' = c := by omega
        rcases Nat.lt_or_ge (n + 1) d with z2 | z2
        · rw [show d - (n + 1) = (d - (n + 1 + 1)) + 1 by omega] at h6
          obtain ⟨c2, g1, g2, g3⟩ := h6
          exact Or.inl (Or.inr ⟨z2, h2, c2, Nat.zero_le _, g1, g2, L', g3⟩)
        · obtain rfl : d = n + 1 := by omega
          rw [Nat.sub_self] at h6
          exact Or.inl (Or.inl (Or.inr ⟨rfl, h6.2.1, h6.2.2⟩))
theorem sub_all {m x y g lim L : Nat} {B : Nat → Nat} : orN (oneN 0 B 0) (SubC m x y g lim 0 L B 0 0) = fun d B' w' => (d = 0 ∨ d ≤ lim) ∧ ∃ L', Rch m x y g d 0 L B 0 L' B' w' := by
  funext d B' w'; apply propext; unfold orN SubC oneN
  constructor
  · rintro (⟨rfl, rfl, rfl⟩ | ⟨h1, h2, c', h3, h4, h5, L', h6⟩)
    · exact ⟨Or.inl rfl, L, rfl, rfl, rfl⟩
    · refine ⟨Or.inr h2, L', ?_⟩
      rw [show d = (d - (0 + 1)) + 1 by omega]; exact ⟨c', h4, h5, h6⟩
  · rintro ⟨hd, L', h⟩
    rcases Nat.eq_zero_or_pos d with z | z
    · subst z; exact Or.inl ⟨rfl, h.2.1, h.2.2⟩
    · rw [show d = (d - (0 + 1)) + 1 by omega] at h
      obtain ⟨c', h4, h5, h6⟩ := h
      exact Or.inr ⟨by omega, by omega, c', Nat.zero_le _, h4, h5, L', h6⟩
