theorem cv_wt {m x y M : Nat} {B0 : Nat → Nat} {R : RW} {τ : TB} (h : CvT m x y B0 R τ) (h1 : ∃ B w, R B w M) (h2 : ∀ B w v, R B w v → v ≤ M) : τ.1 = M := by
  obtain ⟨B, w, h1⟩ := h1
  have a := h.1 B w M h1
  rcases h.2.2 with z | ⟨B', w', z⟩
  · omega
  · have := h2 _ _ _ z; omega
theorem cv_tab {m x y M : Nat} {B0 : Nat → Nat} {R : RW} {τ : TB} {S : (Nat → Nat) → Nat → Prop} (h : CvT m x y B0 R τ) (h1 : ∃ B w, R B w M) (h2 : ∀ B w v, R B w v → v ≤ M) (h3 : ∀ B w, R B w M ↔ S B w) : τ.1 = M ∧ tabS m S τ.2.1 τ.2.2.1 τ.2.2.2.1 := by
  have e := cv_wt h h1 h2
  have t := h.2.1.2.2
  rw [e] at t
  have : (fun B w => R B w M) = S := funext (fun B => funext (fun w => propext (h3 B w)))
  rw [this] at t
  exact ⟨e, t⟩
theorem Rch_pc {m x y g : Nat} (hxy : x ≠ y) : ∀ k n L (B : Nat → Nat) w L' (B' : Nat → Nat) w', Rch m x y g k n L B w L' B' w' → L ≤ 3 → k ≤ L % 2 + L / 2
  | 0, _, _, _, _, _, _, _, _, _ => Nat.zero_le _
  | k + 1, n, L, B, w, L', B', w', h, hL => by
    obtain ⟨c, h1, h2, h3⟩ := h
    have h4 := h2.1
    unfold lfP at h4; rw [if_neg hxy] at h4
    have ih := Rch_pc hxy k _ _ _ _ _ _ _ h3 (by unfold woF; rw [if_neg hxy]; exact Nat.le_trans (Nat.sub_le _ _) hL)
    unfold woF at ih; rw [if_neg hxy] at ih
    rcases (show c % 2 = 0 ∨ c % 2 = 1 by omega) with z | z <;> rw [z] at h4 ih <;> simp only [Nat.pow_zero, Nat.pow_one, Nat.div_one] at h4 ih <;> omega
theorem rcb_2 {m x y n w : Nat} {B0 B : Nat → Nat} (hxy : x ≠ y) (h : rcb m x y B0 n B w) : n ≤ 2 := by
  obtain ⟨L, h⟩ := h
  have h3 : L0F x y = 3 := by unfold L0F; rw [if_neg hxy]
  rw [h3] at h
  exact Rch_pc hxy _ _ _ _ _ _ _ _ h (Nat.le_refl _)
