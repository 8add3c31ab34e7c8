/-! all that has been recorded, with its weights: the table holds what has the greatest -/
abbrev RW : Type := (Nat → Nat) → Nat → Nat → Prop
def CvT (m x y : Nat) (B0 : Nat → Nat) (R : RW) (τ : TB) : Prop := (∀ B w v, R B w v → v ≤ τ.1) ∧ ivT m x y B0 (fun B w => R B w τ.1) τ ∧ (τ.1 = 0 ∨ ∃ B w, R B w τ.1)
theorem rec_wt (m : Nat) (τ : TB) (B : Nat → Nat) (w v : Nat) : (recF m τ B w v).1 = if v < τ.1 then τ.1 else v := by
  obtain ⟨wt, cnt, T, W, g⟩ := τ
  unfold recF
  by_cases c : v < wt
  · rw [if_pos c, if_pos c]
  · rw [if_neg c, if_neg c]
    have : ∀ σ : TB, (rc1 m σ B w).1 = σ.1 := fun σ => by
      unfold rc1; split
      · rfl
      · rfl
    rw [this]
    by_cases c2 : wt < v
    · rw [if_pos c2]
    · rw [if_neg c2]; show wt = v; have : ¬ v < wt := c; omega
def oneR (B : Nat → Nat) (w v : Nat) : RW := fun B' w' v' => B' = B ∧ w' = w ∧ v' = v
def orR (R R' : RW) : RW := fun B w v => R B w v ∨ R' B w v
theorem rec_C {m x y v w : Nat} {B0 B : Nat → Nat} {R : RW} {τ : TB} (hm : m ≤ 1) (hx : 1 ≤ x ∧ x ≤ 6) (hy : 1 ≤ y ∧ y ≤ 6) (hok : okB B0) (h : CvT m x y B0 R τ) (hB : rcb m x y B0 (v / 2) B w) (hv : v ≤ 9) : CvT m x y B0 (orR R (oneR B w v)) (recF m τ B w v) := by
  obtain ⟨h1, h2, h3⟩ := h
  have hw := rec_wt m τ B w v
  have hs := (rec_S hm hx hy hok h2 hB hv).1
  refine ⟨fun B' w' v' z => ?_, ?_, ?_⟩
  · rw [hw]
    rcases z with z | ⟨-, -, z⟩
    · have := h1 B' w' v' z; split <;> omega
    · split <;> omega
  · have e : recS τ (fun B w => R B w τ.1) B w v = fun B' w' => orR R (oneR B w v) B' w' (recF m τ B w v).1 := by
      funext B' w'
      rw [hw]
      unfold recS orR oneR addS
      by_cases c : v < τ.1
      · rw [if_pos c, if_pos c]
        exact propext ⟨Or.inl, fun z => z.elim id (fun z => by have := z.2.2; omega)⟩
      · rw [if_neg c, if_neg c]
        by_cases c2 : τ.1 < v
        · rw [if_pos c2]
          exact propext ⟨fun z => z.elim False.elim (fun z => Or.inr ⟨z.1, z.2, rfl⟩), fun z => z.elim (fun z => by have := h1 _ _ _ z; omega) (fun z => Or.inr ⟨z.1, z.2.1⟩)⟩
        · rw [if_neg c2]
          have ev : τ.1 = v := by omega
          rw [ev]
          exact propext ⟨fun z => z.elim Or.inl (fun z => Or.inr ⟨z.1, z.2, rfl⟩), fun z => z.elim Or.inl (fun z => Or.inr ⟨z.1, z.2.1⟩)⟩
    rw [← e]; exact hs
  · rw [hw]
    by_cases c : v < τ.1
    · rw [if_pos c]
      rcases h3 with h3 | ⟨B', w', h3⟩
      · omega
      · exact Or.inr ⟨B', w', Or.inl h3⟩
    · rw [if_neg c]; exact Or.inr ⟨B, w, Or.inr ⟨rfl, rfl, rfl⟩⟩
theorem CvT.cg {m x y : Nat} {B0 : Nat → Nat} {R R' : RW} {τ : TB} (h : CvT m x y B0 R τ) (e : ∀ B w v, R B w v ↔ R' B w v) : CvT m x y B0 R' τ := by
  have : R = R' := funext (fun B => funext (fun w => funext (fun v => propext (e B w v))))
  rw [← this]; exact h
/-- what a loop records -/
def lpR (ok : Nat → Prop) (Rf : Nat → RW) (n : Nat) : RW := fun B w v => ∃ f, 1 ≤ f ∧ f ≤ n ∧ ok f ∧ Rf f B w v
theorem lp_C {m x y : Nat} {B0 : Nat → Nat} {ok : Nat → Prop} {st : Nat → TB → TB} {Rf : Nat → RW} {R : RW} {τ : TB} (h0 : CvT m x y B0 R τ) : ∀ n, (∀ f σ R', 1 ≤ f → f ≤ n → ok f → CvT m x y B0 R' σ → CvT m x y B0 (orR R' (Rf f)) (st f σ)) → CvT m x y B0 (orR R (lpR ok Rf n)) (lpF ok st n τ)
  | 0, _ => h0.cg (fun B w v => ⟨Or.inl, fun z => z.elim id (fun ⟨f, a, b, _⟩ => by omega)⟩)
  | n + 1, h => by
    have ih := lp_C h0 n (fun f σ R' a b => h f σ R' a (by omega))
    by_cases c : ok (n + 1)
    · rw [lp_y c]
      refine (h (n + 1) _ _ (by omega) (Nat.le_refl _) c ih).cg (fun B w v => ⟨fun z => ?_, fun z => ?_⟩)
      · rcases z with (z | ⟨f, a, b, d, e⟩) | z
        · exact Or.inl z
        · exact Or.inr ⟨f, a, by omega, d, e⟩
        · exact Or.inr ⟨n + 1, by omega, Nat.le_refl _, c, z⟩
      · rcases z with z | ⟨f, a, b, d, e⟩
        · exact Or.inl (Or.inl z)
        · by_cases y9 : f = n + 1
          · subst y9; exact Or.inr e
          · exact Or.inl (Or.inr ⟨f, a, by omega, d, e⟩)
    · rw [lp_n c]
      refine ih.cg (fun B w v => or_congr Iff.rfl ⟨fun ⟨f, a, b, d, e⟩ => ⟨f, a, by omega, d, e⟩, fun ⟨f, a, b, d, e⟩ => ⟨f, a, ?_, d, e⟩⟩)
      by_cases y9 : f = n + 1
      · subst y9; exact absurd d c
      · omega
def alR (ok : Nat → Prop) (Rf : Nat → RW) (Re : RW) (n : Nat) : RW := fun B w v => lpR ok Rf n B w v ∨ ((¬ ∃ f, 1 ≤ f ∧ f ≤ n ∧ ok f) ∧ Re B w v)
theorem al_C {m x y : Nat} {B0 : Nat → Nat} {ok : Nat → Prop} {st : Nat → TB → TB} {el : TB → TB} {Rf : Nat → RW} {Re R : RW} {τ : TB} {n : Nat} (h0 : CvT m x y B0 R τ) (h : ∀ f σ R', 1 ≤ f → f ≤ n → ok f → CvT m x y B0 R' σ → CvT m x y B0 (orR R' (Rf f)) (st f σ)) (h2 : CvT m x y B0 (orR R Re) (el τ)) : CvT m x y B0 (orR R (alR ok Rf Re n)) (alF ok st el n τ) := by
  unfold alF
  by_cases c : ∃ f, 1 ≤ f ∧ f ≤ n ∧ ok f
  · rw [if_pos c]
    exact (lp_C h0 n h).cg (fun B w v => or_congr Iff.rfl ⟨Or.inl, fun z => z.elim id (fun z => absurd c z.1)⟩)
  · rw [if_neg c]
    exact h2.cg (fun B w v => or_congr Iff.rfl ⟨fun z => Or.inr ⟨c, z⟩, fun z => z.elim (fun ⟨f, a, b, d, _⟩ => absurd ⟨f, a, b, d⟩ c) (fun z => z.2)⟩)
theorem Cv_0 (m x y : Nat) (B0 : Nat → Nat) (T : Nat → Nat → Nat) (W : Nat → Nat) (g : Nat) : CvT m x y B0 (fun _ _ _ => False) (0, 0, T, W, g) := ⟨fun _ _ _ z => z.elim, ⟨Nat.zero_le _, fun _ _ z => z.elim, tabS_e m T W⟩, Or.inl rfl⟩
